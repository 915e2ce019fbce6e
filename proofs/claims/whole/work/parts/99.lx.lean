/-! THE START: what is made is what the contracts speak of -/
section KMD
variable {cI cJ cE cF cR : ClassId} {ad : Nat → Nat} {G : Nat → va_E}
theorem kCn_f (i : Nat) (h : i ≠ 33 ∧ i ≠ 34 ∧ i ≠ 36 ∧ ¬ (i < 433 ∧ i % 66 = 38) ∧ ¬ (i < 433 ∧ i % 66 = 39)) : kCn cE cF cR ad G i = G i := kCn_o h.1 h.2.1 h.2.2.1 h.2.2.2.1 h.2.2.2.2
theorem pAr.made (h : kAr cI ad G 6) : pAr cI ad G := by
  obtain ⟨e0, ⟨d1, d2, d3⟩, ⟨u1, u2, u3, u4, u5⟩, e3, e4, e5, e6, e7, e8, e9⟩ := h
  exact ⟨e0, ⟨d1, d2, d3, u1, u2, u3, u4, u5⟩, e3, e4, e5, e6, e7, e8, e9⟩
set_option maxHeartbeats 4000000 in
theorem pCs.made (h : kSo cI cJ cE cF cR ad G 1) : pCs cI cJ cE cF cR 488 ad (kCn cE cF cR ad G) (fun _ => 0) 1 0 0 := by
  obtain ⟨e0, ⟨q0, a, b, q1, q2, q3⟩, ⟨⟨n0, tn, pv, ml, sv, w0⟩, w1, w2, w3, ⟨PR, w4⟩, w5, w6, w7, w8, w9, w10, w11, w12, w13⟩, ⟨r0, Z, r1⟩, s0⟩ := h
  have hf := fun (i : Nat) (hi : i ≠ 33 ∧ i ≠ 34 ∧ i ≠ 36 ∧ ¬ (i < 433 ∧ i % 66 = 38) ∧ ¬ (i < 433 ∧ i % 66 = 39)) => kCn_f (cE := cE) (cF := cF) (cR := cR) (ad := ad) (G := G) i hi
  refine ⟨(hf 1 (by omega)).trans e0, ⟨by omega, by omega, pe_T_0 1⟩, ⟨(hf 2 (by omega)).trans q0, a, b, (hf 3 (by omega)).trans q1, (hf 4 (by omega)).trans q2, (eq_V_0 q3).1, (eq_V_0 q3).2⟩, ⟨pFh.keep s0 (fun i h1 h2 => hf i (by omega)), (hf 473 (by omega)).trans r0, Z, (hf 474 (by omega)).trans r1⟩, fun i => i, PR, ⟨⟨?_, ?_, ?_, fun r hr => ⟨?_, ?_⟩, fun i hi => hi, fun i k _ _ h9 => h9⟩, ?_, fun q hq => ?_, (hf 35 (by omega)).trans w4, 470, n0, tn, pv, ml, sv, (hf 5 (by omega)).trans w0⟩, Or.inl ⟨rfl, rfl⟩⟩
  · unfold kCn; rw [if_pos rfl]
  · unfold kCn; rw [if_neg (by omega), if_pos rfl]
  · unfold kCn; rw [if_neg (by omega), if_neg (by omega), if_pos rfl]
  · unfold kCn
    rw [if_neg (by omega), if_neg (by omega), if_neg (by omega), if_pos (by omega)]
    have e : ∀ j : Nat, 38 + 66 * r + 2 + 8 * j = 40 + 66 * r + 8 * j := fun j => by omega
    simp only [e]
  · unfold kCn
    rw [if_neg (by omega), if_neg (by omega), if_neg (by omega), if_neg (by omega), if_pos (by omega)]
    have e : ∀ j : Nat, 39 + 66 * r + 4 + 8 * j = 43 + 66 * r + 8 * j := fun j => by omega
    simp only [e]
  · exact ⟨(pAr.made w1).keep (fun k h1 h2 => hf k (by omega)), pHas.keep w10 (hf _ (by omega)) (hf _ (by omega)), pHas.keep w11 (hf _ (by omega)) (hf _ (by omega)), pHas.keep w12 (hf _ (by omega)) (hf _ (by omega)), pFh.keep w9 (fun i h1 h2 => hf i (by omega)), pFh.keep w8 (fun i h1 h2 => hf i (by omega)), pEn.keep w13 (fun i h1 h2 => hf i (by omega)), fun j hj => pEh.keep (by have := w7 j hj; rw [show 1 + 4 + 428 + 3 * j = 433 + 3 * j by omega] at this; exact this) (fun i h1 h2 => hf i (by omega))⟩
  · obtain ⟨⟨⟨pc, x0⟩, -, -, x3, x4⟩, x5⟩ := w6 q hq
    rw [show 1 + 4 + 32 + 66 * q = 37 + 66 * q by omega] at x0
    refine ⟨⟨pc, ?_⟩, fun j hj => ⟨?_, ?_⟩, ?_, ?_⟩
    · rw [hf _ (by omega), x0, show 37 + 66 * q + 1 = 38 + 66 * q by omega, show 37 + 66 * q + 2 = 39 + 66 * q by omega, show 37 + 66 * q + 59 = 96 + 66 * q by omega]
    · have := (x3 j hj).1
      rw [show 1 + 4 + 32 + 66 * q + 3 + 8 * j = 40 + 66 * q + 8 * j by omega] at this
      exact this.keep (fun i h1 h2 => hf i (by rcases (show j = 0 ∨ j = 1 ∨ j = 2 ∨ j = 3 ∨ j = 4 ∨ j = 5 ∨ j = 6 by omega) with h | h | h | h | h | h | h <;> subst h <;> omega))
    · have := (x3 j hj).2
      rw [show 1 + 4 + 32 + 66 * q + 6 + 8 * j = 43 + 66 * q + 8 * j by omega] at this
      exact this.keep (fun i h1 h2 => hf i (by rcases (show j = 0 ∨ j = 1 ∨ j = 2 ∨ j = 3 ∨ j = 4 ∨ j = 5 ∨ j = 6 by omega) with h | h | h | h | h | h | h <;> subst h <;> omega))
    · rw [show 1 + 4 + 32 + 66 * q + 59 = 96 + 66 * q by omega] at x4
      exact x4.keep (hf _ (by omega)) (hf _ (by omega))
    · rw [show 1 + 4 + 93 + 66 * q = 98 + 66 * q by omega] at x5
      exact x5.keep (fun i h1 h2 => hf i (by omega))
theorem mSt.made (h : kMo cI cJ ad G 480) : mSt cI cJ ad G (fun _ => 0) 1 0 0 := by
  obtain ⟨F, Ln, Sg, T0, B0, PR, RS, e0, e1, e2, e3, e4, e5, e6, e7, e8⟩ := h
  exact ⟨F, Ln, Sg, T0, B0, PR, RS, 0, 0, 0, 0, e0, e1, e2, e3, e4, e5, e6, e7, ⟨by omega, by omega, pe_T_0 1⟩, e8, Or.inl rfl⟩
end KMD

def R_law : String := "LimbSolverLaw"
def lw_P (b : Addr) (xs : List Int32) (args : Array Value) (s : State) : Prop := args = #[.ref b] ∧ s.IntsAt b xs ∧ xs.length ≤ 2560 ∧ (Jvm.Cond.and given_1 narrow_1).before args s = true
def lw_Q (_ : Array Value) (s : State) (o : Outcome) (t : State) : Prop := o = .returned (some (.int 1)) ∧ Framed s o t [] 601024 7293034
def lw_Z (below : List Frame) (a : Array Value) (s : State) : State → Prop := fun t => ∃ o, t.status = .running ∧ Ended t below o ∧ lw_Q a s o t
/-- the law's own end, with 1 on the stack, nothing written that was there before, its room as the claim has it -/
theorem lw_ret {p : Program} {l : Launch} {e : Env} {s : State} {m : MethodId} {below : List Frame} {meth : Method} {c : Code} {b : Nat} (hx : p.tables.exec = Jvm.exec) (hb : c.code = code) (hr : meth.sig.returnType = ret) (hlocks : meth.locks = false) {pc : Nat} {H : Heap} {ls : Array Slot} (hdg : decode code pc = .ok (.ireturn, 1)) : W p l e room_1 s m #[Value.ref b] below meth c H [] 601024 7293034 (lw_Z below #[Value.ref b] s) (F0 m pc ls [.int 1]) := by
  intro T hT X
  obtain ⟨fs, hret, hrun, hended, hW, hframe⟩ := X.leave (v := some (.int 1)) (hlocks := hlocks) (fun h => by rw [hr] at h; cases h)
  have hmeth' : T.vm.method? m = some meth := X.method'
  refine ⟨T.setFrames fs, ?_, .returned (some (.int 1)), hrun, hended, rfl, ⟨_, rfl⟩, hW, hframe⟩
  jvm_step X.here [X.here.top, hx, hb, hdg, hmeth', hr, ret, narrow_b1]
  (try refine ⟨rfl, ?_⟩); (try refine ⟨rfl, ?_⟩)
  first | (intro acts; rw [hret _ acts rfl rfl rfl]) | rw [hret _ _ rfl rfl rfl]
  exact Steps.refl _
/-- what holds at the law's entry: the machine, the code, the tables' words (any of lw_tbl by 'hts w (by decide +kernel)'), the script of L ints xs at the cell b, what the Statement gives of the start (any of its parts by flat_of_before) -/
def lw_At (p : Program) (s : State) (m : MethodId) (meth : Method) (c : Code) (b L : Nat) (xs : Nat → Int32) : Prop :=
  p.tables.exec = Jvm.exec ∧ c.code = code ∧ meth.sig.returnType = ret ∧ c.maxLocals = 7 ∧ s.vm.findClass R_law = some m.cls ∧ (∀ w ∈ lw_tbl, w.before #[Value.ref b] s = true) ∧ va_X b L xs s s.heap ∧ b < s.heap.size ∧ meth.locks = false ∧ (Jvm.Cond.and given_1 narrow_1).before #[Value.ref b] s = true
set_option maxHeartbeats 4000000 in
set_option maxRecDepth 100000 in
/-- the loop over the script -/
theorem lw_loop {p : Program} {l : Launch} {e : Env} {s : State} {m : MethodId} {below : List Frame} {meth : Method} {c : Code} {b L : Nat} {xs : Nat → Int32} {D : va_G} {cI cJ cE cF cR : ClassId} {ad : Nat → Nat} (C : lwC p l s m c b L xs D cI cJ cE cF cR (fun q : Nat => s.heap.size ≤ q)) (hr : meth.sig.returnType = ret) (hlk : meth.locks = false) : ∀ (t j : Nat) (G : Nat → va_E) (H : Heap) (locs : List Loc) (ls : Array Slot), L < 5 * j + 5 * t + 5 → j ≤ 512 → lwS cI cJ cE cF cR ad G → va_P D vwCl (pw 488 ad G) H → va_D (fun q : Nat => s.heap.size ≤ q) (pw 488 ad G) → va_S (fun q : Nat => s.heap.size ≤ q) s.heap H locs → lv_has ls 7 [(4, .int (iZ (((5 * j : Nat) : Int)))), (3, .ref (ad 0)), (2, .ref (ad 480)), (1, .ref (ad 1)), (0, .ref (b))] → W p l e room_1 s m #[Value.ref b] below meth c H locs (488 + j) (67563 + 6 * j) (lw_Z below #[Value.ref b] s) (F0 m 23 ls []) := by
  obtain ⟨hx, hb, hml, hown, hts, hst, hN, hX9, hHC, hK, hA, hXs, hbl, hbA, hL25⟩ := id C
  have hout : ∀ (j : Nat) (H : Heap) (locs : List Loc) (ls : Array Slot), j ≤ 512 → va_S (fun q : Nat => s.heap.size ≤ q) s.heap H locs → W p l e room_1 s m #[Value.ref b] below meth c H locs (488 + j) (67563 + 6 * j) (lw_Z below #[Value.ref b] s) (F0 m 979 ls []) := by
    intro j H locs ls hj hS
    refine lv_iconst (v := iZ 1) hx hb dL_law_979 rfl ?_
    refine va_forget (fun q hq => hS.2.2 q hq) ?_
    refine W.widen (k := 601024) (n := 7293034) (by omega) (by omega) ?_
    exact lw_ret hx hb hr hlk dL_law_980
  intro t
  induction t with
  | zero =>
    intro j G H locs ls hlt hj5 hW hP hD hS hl
    refine lv_iload hx hb dL_law_23 (lv_at hl 0 rfl) ?_
    refine lv_aload_n hx hb dL_law_25 rfl (lv_at hl 4 rfl) ?_
    refine zl_slen hx hb hXs hbl hbA hS hL25 dL_law_26 ?_
    refine lv_iconst (v := iZ 5) hx hb dL_law_27 rfl ?_
    refine zr_isub hx hb dL_law_28 ?_
    refine zr_icmp_gt hx hb 979 ⟨by omega, by omega⟩ ⟨by omega, by omega⟩ dL_law_29 (by decide) (fun h_29 => ?_) (fun h_29 => ?_)
    · exact hout j H locs ls hj5 hS
    · exfalso; omega
  | succ t ih =>
    intro j G H locs ls hlt hj5 hW hP hD hS hl
    refine lv_iload hx hb dL_law_23 (lv_at hl 0 rfl) ?_
    refine lv_aload_n hx hb dL_law_25 rfl (lv_at hl 4 rfl) ?_
    refine zl_slen hx hb hXs hbl hbA hS hL25 dL_law_26 ?_
    refine lv_iconst (v := iZ 5) hx hb dL_law_27 rfl ?_
    refine zr_isub hx hb dL_law_28 ?_
    refine zr_icmp_gt hx hb 979 ⟨by omega, by omega⟩ ⟨by omega, by omega⟩ dL_law_29 (by decide) (fun h_29 => ?_) (fun h_29 => ?_)
    · exact hout j H locs ls hj5 hS
    · refine lv_aload_n hx hb dL_law_32 rfl (lv_at hl 4 rfl) ?_
      refine lv_iload hx hb dL_law_33 (lv_at hl 0 rfl) ?_
      refine zl_sld hx hb hXs hbl hbA hS (5 * j) (by omega) (by omega) hL25 dL_law_35 ?_
      refine lv_bipush (v := iZ 15) hx hb dL_law_36 (by decide) ?_
      refine zr_iand hx hb 4 (by decide) (by decide) dL_law_38 ?_
      have hj : 5 * j + 5 ≤ L := by omega
      have hk9 : ∀ (G1 : Nat → va_E) (H1 : Heap) (locs1 : List Loc) (ls1 : Array Slot), lwS cI cJ cE cF cR ad G1 → va_P D vwCl (pw 488 ad G1) H1 → va_D (fun q : Nat => s.heap.size ≤ q) (pw 488 ad G1) → va_S (fun q : Nat => s.heap.size ≤ q) s.heap H1 locs1 → lv_has ls1 7 [(4, .int (iZ (((5 * j : Nat) : Int)))), (3, .ref (ad 0)), (2, .ref (ad 480)), (1, .ref (ad 1)), (0, .ref (b))] → W p l e room_1 s m #[Value.ref b] below meth c H1 locs1 (488 + j + 1) (67563 + 6 * j + 6) (lw_Z below #[Value.ref b] s) (F0 m 973 ls1 []) := by
        intro G1 H1 locs1 ls1 hW1 hP1 hD1 hS1 hl1
        refine lv_iinc (v := iZ (((5 * j + 5 : Nat) : Int))) (lv' := [(4, .int (iZ (((5 * j + 5 : Nat) : Int)))), (3, .ref (ad 0)), (2, .ref (ad 480)), (1, .ref (ad 1)), (0, .ref (b))]) hx hb dL_law_973 hl1 (k := 0) rfl (by rw [show ((5 * j + 5 : Nat) : Int) = ((5 * j : Nat) : Int) + 5 by omega]; exact iZ_add _ _) (by decide) rfl (fun ls hl => ?_)
        refine lv_goto (tgt := 23) hx hb dL_law_976 (by decide) ?_
        refine zk_cs (c' := 488 + (j + 1)) (s' := 67563 + 6 * (j + 1)) (by omega) (by omega) ?_
        exact ih (j + 1) G1 H1 locs1 ls (by omega) (by omega) hW1 hP1 hD1 hS1 (by rw [show 5 * (j + 1) = 5 * j + 5 by omega]; exact hl)
      have hcs : 488 + j + 1 ≤ 601024 ∧ 67563 + 6 * j + 6 ≤ 7293034 := by omega
      obtain ⟨v, hv⟩ : ∃ v : Int, v = (xs (5 * j)).toInt % 2 ^ 4 := ⟨_, rfl⟩
      have hv0 : 0 ≤ v ∧ v < 16 := by rw [hv]; omega
      rw [← hv]
      obtain ⟨hv1, hv2⟩ := hv0
      by_cases q0 : v = 0
      · exact zl_tin hx hb 73 112 dL_law_39 ⟨by omega, by omega⟩ (by omega) (by omega) (by rw [q0]; rfl) (by decide) (lm_size C j hj hcs hW hP hD hS hl hk9)
      by_cases q1 : v = 1
      · exact zl_tin hx hb 109 148 dL_law_39 ⟨by omega, by omega⟩ (by omega) (by omega) (by rw [q1]; rfl) (by decide) (lm_set C j hj hcs hW hP hD hS hl hk9)
      by_cases q2 : v = 2
      · exact zl_tin hx hb 201 240 dL_law_39 ⟨by omega, by omega⟩ (by omega) (by omega) (by rw [q2]; rfl) (by decide) (lm_right C j hj hcs hW hP hD hS hl hk9)
      by_cases q3 : v = 3
      · exact zl_tin hx hb 281 320 dL_law_39 ⟨by omega, by omega⟩ (by omega) (by omega) (by rw [q3]; rfl) (by decide) (lm_eliminate C j hj hcs hW hP hD hS hl hk9)
      by_cases q4 : v = 4
      · exact zl_tin hx hb 337 376 dL_law_39 ⟨by omega, by omega⟩ (by omega) (by omega) (by rw [q4]; rfl) (by decide) (lm_rank C j hj hcs hW hP hD hS hl hk9)
      by_cases q5 : v = 5
      · exact zl_tin hx hb 350 389 dL_law_39 ⟨by omega, by omega⟩ (by omega) (by omega) (by rw [q5]; rfl) (by decide) (lm_isSolvable C j hj hcs hW hP hD hS hl hk9)
      by_cases q6 : v = 6
      · exact zl_tin hx hb 401 440 dL_law_39 ⟨by omega, by omega⟩ (by omega) (by omega) (by rw [q6]; rfl) (by decide) (lm_most C j hj hcs hW hP hD hS hl hk9)
      by_cases q7 : v = 7
      · exact zl_tin hx hb 445 484 dL_law_39 ⟨by omega, by omega⟩ (by omega) (by omega) (by rw [q7]; rfl) (by decide) (lm_pivot C j hj hcs hW hP hD hS hl hk9)
      by_cases q8 : v = 8
      · exact zl_tin hx hb 501 540 dL_law_39 ⟨by omega, by omega⟩ (by omega) (by omega) (by rw [q8]; rfl) (by decide) (lm_solution C j hj hcs hW hP hD hS hl hk9)
      by_cases q9 : v = 9
      · exact zl_tin hx hb 581 620 dL_law_39 ⟨by omega, by omega⟩ (by omega) (by omega) (by rw [q9]; rfl) (by decide) (lm_determinant C j hj hcs hW hP hD hS hl hk9)
      by_cases q10 : v = 10
      · exact zl_tin hx hb 649 688 dL_law_39 ⟨by omega, by omega⟩ (by omega) (by omega) (by rw [q10]; rfl) (by decide) (lm_cell C j hj hcs hW hP hD hS hl hk9)
      by_cases q11 : v = 11
      · exact zl_tin hx hb 741 780 dL_law_39 ⟨by omega, by omega⟩ (by omega) (by omega) (by rw [q11]; rfl) (by decide) (lm_told C j hj hcs hW hP hD hS hl hk9)
      by_cases q12 : v = 12
      · exact zl_tin hx hb 833 872 dL_law_39 ⟨by omega, by omega⟩ (by omega) (by omega) (by rw [q12]; rfl) (by decide) (lm_modulo C j hj hcs hW hP hD hS hl hk9)
      by_cases q13 : v = 13
      · exact zl_tin hx hb 858 897 dL_law_39 ⟨by omega, by omega⟩ (by omega) (by omega) (by rw [q13]; rfl) (by decide) (lm_meter C j hj hcs hW hP hD hS hl hk9)
      by_cases q14 : v = 14
      · exact zl_tin hx hb 871 910 dL_law_39 ⟨by omega, by omega⟩ (by omega) (by omega) (by rw [q14]; rfl) (by decide) (lm_isRight C j hj hcs hW hP hD hS hl hk9)
      refine zl_tout hx hb 973 dL_law_39 ⟨by omega, by omega⟩ (by omega) (by decide) ?_
      refine W.widen (k := 488 + j + 1) (n := 67563 + 6 * j + 6) (by omega) (by omega) ?_
      exact hk9 G H locs ls hW hP hD hS hl

theorem lw_N {s : State} {args : Array Value} (hts : ∀ w ∈ lw_tbl, w.before args s = true) : zN s := by
  have h1 : ∀ q ∈ zNF, Cond.fieldLinkNest q.1 q.2.1 q.2.2.1 q.2.2.2.1 q.2.2.2.2.1 q.2.2.2.2.2 ∈ lw_tbl := by decide +kernel
  have h2 : ∀ q ∈ zNM, Cond.methodLinkNest q.1 q.2.1 q.2.2.1 q.2.2.2 ∈ lw_tbl := by decide +kernel
  exact ⟨fun q hq => va_Nw.of rfl (hts _ (h1 q hq)), fun q hq => va_Nw.of rfl (hts _ (h2 q hq))⟩
theorem lw_AO {s : State} {args : Array Value} (hts : ∀ w ∈ lw_tbl, w.before args s = true) : zAO s := ⟨va_AO.of (hts (.arrayOver (.object "LimbSolver$Entry")) (by decide +kernel)), va_AO.of (hts (.arrayOver (.object "LimbSolver$Fraction")) (by decide +kernel)), va_AO.of (hts (.arrayOver (.object "LimbSolver$Row")) (by decide +kernel))⟩
theorem lw_HC {s : State} {args : Array Value} (hs : ∀ c ∈ flatC (Jvm.Cond.and given_1 narrow_1), c.before args s = true) : zHC s := ⟨va_Nc.of (hs (.not (.castable "java/lang/IllegalArgumentException" "java/lang/IndexOutOfBoundsException")) (by decide +kernel)), va_Nc.of (hs (.not (.castable "java/lang/IllegalStateException" "java/lang/IndexOutOfBoundsException")) (by decide +kernel))⟩
theorem lw_X {s : State} {args : Array Value} {A : Nat → Prop} (hts : ∀ w ∈ lw_tbl, w.before args s = true) (hs : ∀ c ∈ flatC (Jvm.Cond.and given_1 narrow_1), c.before args s = true) (hA : ∀ a : Nat, a < s.heap.size → ¬ A a) {cX : ClassId} (hown : s.vm.findClass "LimbSolver" = some cX) : zX A s := by
  have h1 : ∀ q ∈ zTx, Cond.stringRef "LimbSolver" q.1 q.2 ∈ lw_tbl := by decide +kernel
  have h2 : ∀ w ∈ zXW, w ∈ lw_tbl := by decide +kernel
  refine ⟨vx_Zqof (hts (.laysStatic Bundle.tN "UNASSIGNED_STACK" Bundle.steD) (by decide +kernel)) (hts (.initialized Bundle.tN) (by decide +kernel)) (hs (.isRef (.static Bundle.tN "UNASSIGNED_STACK" Bundle.steD)) (by decide +kernel)) hA, vx_Zqof (hts (.laysStatic Bundle.tN "SUPPRESSED_SENTINEL" Bundle.listD) (by decide +kernel)) (hts (.initialized Bundle.tN) (by decide +kernel)) (hs (.isRef (.static Bundle.tN "SUPPRESSED_SENTINEL" Bundle.listD)) (by decide +kernel)) hA, fun q hq => ?_, fun w hw => va_Nw.of (zXW_t w hw) (hts w (h2 w hw))⟩
  have h3 := hts _ (h1 q hq)
  obtain ⟨-, -, -, a, -, -, -, -, -, hev⟩ := Cond.stringRef_spec hown h3
  exact ⟨a, vk_R.of h3 hev⟩

theorem lw_K {s : State} {args : Array Value} (hts : ∀ w ∈ lw_tbl, w.before args s = true) : ∃ (D : va_G) (cI cJ cE cF cR : ClassId), va_K D vwCl (zty cI cJ cE cF cR) s := by
  have h : ∀ c : Nat, ∃ x : ClassId × (Nat → Nat), ∀ q : vw_C, vwCl[c]? = some q → u_Kn s q.1 q.2.1 q.2.2 x.1 x.2 := fun c => match c with
    | 0 => by
      obtain ⟨a, i9, h⟩ := u_known (n := 9) hts wsL_law_in0_X00 (hts (.instantiable RX0 9) (by decide +kernel))
      exact ⟨(a, i9), fun q hq => by cases hq; exact h⟩
    | 1 => by
      obtain ⟨a, i9, h⟩ := u_known (n := 2) hts wsL_law_in0_X10 (hts (.instantiable RX1 2) (by decide +kernel))
      exact ⟨(a, i9), fun q hq => by cases hq; exact h⟩
    | 2 => by
      obtain ⟨a, i9, h⟩ := u_known (n := 17) hts wsL_law_in0_X20 (hts (.instantiable RX2 17) (by decide +kernel))
      exact ⟨(a, i9), fun q hq => by cases hq; exact h⟩
    | 3 => by
      obtain ⟨a, i9, h⟩ := u_known (n := 2) hts wsL_law_in0_X30 (hts (.instantiable RX3 2) (by decide +kernel))
      exact ⟨(a, i9), fun q hq => by cases hq; exact h⟩
    | 4 => by
      obtain ⟨a, i9, h⟩ := u_known (n := 3) hts wsL_law_in0_X40 (hts (.instantiable RX4 3) (by decide +kernel))
      exact ⟨(a, i9), fun q hq => by cases hq; exact h⟩
    | 5 => by
      obtain ⟨a, i9, h⟩ := u_known (n := 9) hts wsL_law_in0_X50 (hts (.instantiable RX5 9) (by decide +kernel))
      exact ⟨(a, i9), fun q hq => by cases hq; exact h⟩
    | 6 => by
      obtain ⟨a, i9, h⟩ := u_known (n := 3) hts wsL_law_in0_X60 (hts (.instantiable RX6 3) (by decide +kernel))
      exact ⟨(a, i9), fun q hq => by cases hq; exact h⟩
    | 7 => by
      obtain ⟨a, i9, h⟩ := u_known (n := 1) hts wsL_law_in0_X70 (hts (.instantiable RX7 1) (by decide +kernel))
      exact ⟨(a, i9), fun q hq => by cases hq; exact h⟩
    | 8 => by
      obtain ⟨a, i9, h⟩ := u_known (n := 4) hts wsL_law_in0_X80 (hts (.instantiable RX8 4) (by decide +kernel))
      exact ⟨(a, i9), fun q hq => by cases hq; exact h⟩
    | 9 => by
      obtain ⟨a, i9, h⟩ := u_known (n := 2) hts wsL_law_in0_X90 (hts (.instantiable RX9 2) (by decide +kernel))
      exact ⟨(a, i9), fun q hq => by cases hq; exact h⟩
    | 10 => by
      obtain ⟨a, i9, h⟩ := u_known (n := 6) hts wsL_law_in0_X100 (hts (.instantiable RX10 6) (by decide +kernel))
      exact ⟨(a, i9), fun q hq => by cases hq; exact h⟩
    | 11 => by
      obtain ⟨a, i9, h⟩ := u_known (n := 14) hts wsL_law_in0_X110 (hts (.instantiable RX11 14) (by decide +kernel))
      exact ⟨(a, i9), fun q hq => by cases hq; exact h⟩
    | k + 12 => ⟨(0, fun _ => 0), fun q hq => by have := (List.getElem?_eq_some_iff.mp hq).1; exact absurd this (by show ¬ (k + 12 < 12); omega)⟩
  obtain ⟨cI, kI, pI, i1, i2, i3⟩ := Cond.arrayClass_spec (hts (.arrayClass .int) (by decide +kernel))
  obtain ⟨cJ, kJ, pJ, j1, j2, j3⟩ := Cond.arrayClass_spec (hts (.arrayClass .long) (by decide +kernel))
  obtain ⟨pE, cE, kE, e1, e2, e3, e4, e5⟩ := Cond.arrayOver_spec (hts (.arrayOver (.object "LimbSolver$Entry")) (by decide +kernel))
  obtain ⟨pF, cF, kF, f1, f2, f3, f4, f5⟩ := Cond.arrayOver_spec (hts (.arrayOver (.object "LimbSolver$Fraction")) (by decide +kernel))
  obtain ⟨pR, cR, kR, r1, r2, r3, r4, r5⟩ := Cond.arrayOver_spec (hts (.arrayOver (.object "LimbSolver$Row")) (by decide +kernel))
  refine ⟨(fun c => (Classical.choose (h c)).1, fun c => (Classical.choose (h c)).2), cI, cJ, cE, cF, cR, fun c q hq => Classical.choose_spec (h c) q hq, fun k q hk => ?_⟩
  match k, hk with
  | 0, hk => cases hk; exact ⟨fun n z => ⟨fun k h => (by cases h), kI, i2, pI, i3⟩, i1⟩
  | 1, hk => cases hk; exact ⟨fun n z => ⟨fun k h => (by cases h), kJ, j2, pJ, j3⟩, j1⟩
  | 2, hk => cases hk; exact ⟨fun n z => ⟨fun k h => (by cases h), kE, e3, pE, e4⟩, kE, pE, e3, e4, e1, e5⟩
  | 3, hk => cases hk; exact ⟨fun n z => ⟨fun k h => (by cases h), kF, f3, pF, f4⟩, kF, pF, f3, f4, f1, f5⟩
  | 4, hk => cases hk; exact ⟨fun n z => ⟨fun k h => (by cases h), kR, r3, pR, r4⟩, kR, pR, r3, r4, r1, r5⟩
  | k + 5, hk => exact absurd (List.getElem?_eq_some_iff.mp hk).1 (by show ¬ (k + 5 < 5); omega)

set_option maxHeartbeats 4000000 in
set_option maxRecDepth 100000 in
/-- from the entry, for every script of at most 2560 ints, the law comes to its end with true -/
theorem whole_start {p : Program} {e : Env} {s : State} {m : MethodId} {below : List Frame} {meth : Method} {c : Code} (l : Launch) (hst : l.stackTraces = false) {b L : Nat} {xs : Nat → Int32} (hL : L ≤ 2560) (C0 : lw_At p s m meth c b L xs) : W p l e room_1 s m #[Value.ref b] below meth c s.heap [] 0 0 (lw_Z below #[Value.ref b] s) (entryFrame m ([Value.ref b] : List Value).toArray 7) := by
  obtain ⟨hx, hb, hr, hml, hown, hts0, hXs, hbl, hlk, hgv⟩ := C0
  have hts : ∀ w ∈ wsL_law, w.before #[Value.ref b] s = true := fun w h => hts0 w (wsL_law_in w h)
  obtain ⟨D, cI, cJ, cE, cF, cR, hK⟩ := lw_K hts0
  have hN := lw_N hts0
  have hAO := lw_AO hts0
  have hs := flat_of_before _ hgv
  have hsol : s.vm.findClass "LimbSolver" = some (D.1 10) := (hK.1 10 _ rfl).2.1
  have hX9 : zX (fun q : Nat => s.heap.size ≤ q) s := lw_X hts0 hs (fun a h1 h2 => absurd h1 (Nat.not_lt.mpr h2)) hsol
  have hA : ∀ q : Nat, s.heap.size ≤ q → (fun q : Nat => s.heap.size ≤ q) q := fun q h => h
  have hbA : ¬ (fun q : Nat => s.heap.size ≤ q) b := fun h => absurd hbl (Nat.not_lt.mpr h)
  have C : lwC p l s m c b L xs D cI cJ cE cF cR (fun q : Nat => s.heap.size ≤ q) := ⟨hx, hb, hml, hown, hts, hst, hN, hX9, lw_HC hs, hK, hA, hXs, hbl, hbA, hL⟩
  have hin10 : ∀ w ∈ wsX100, w ∈ wsL_law := by decide +kernel
  have q_classLink_RL_8_RX10 := hts (.classLink RL 8 RX10) (by decide +kernel)
  have q_instantiable_RX10_6 := hts (.instantiable RX10 6) (by decide +kernel)
  have q_initialized_RX10 := hts (.initialized RX10) (by decide +kernel)
  have q_methodLink_RL_59_yX10_init := hts (.methodLink RL 59 yX10_init) (by decide +kernel)
  have q_instanceMethod_yX10_init := hts (.instanceMethod yX10_init) (by decide +kernel)
  have hin11 : ∀ w ∈ wsX110, w ∈ wsL_law := by decide +kernel
  have q_classLink_RL_60_RX11 := hts (.classLink RL 60 RX11) (by decide +kernel)
  have q_instantiable_RX11_14 := hts (.instantiable RX11 14) (by decide +kernel)
  have q_initialized_RX11 := hts (.initialized RX11) (by decide +kernel)
  have q_methodLink_RL_62_yX11_init := hts (.methodLink RL 62 yX11_init) (by decide +kernel)
  have q_instanceMethod_yX11_init := hts (.instanceMethod yX11_init) (by decide +kernel)
  have q_arrayClass_long := hts (.arrayClass .long) (by decide +kernel)
  have hl := lv_entry ([.ref b] : List Value) (n := 7) (Nat.le_of_ble_eq_true rfl)
  rw [lg_entry_eq]
  generalize (lg_sl ([Value.ref b] : List Value) ++ List.replicate (7 - (lg_sl ([Value.ref b] : List Value)).length) Slot.unset).toArray = ls at hl ⊢
  have hl : lv_has ls 7 [(0, .ref (b))] := hl
  obtain ⟨ad, _⟩ : ∃ a : Nat → Nat, a = fun _ => 0 := ⟨_, rfl⟩
  obtain ⟨G, _⟩ : ∃ g : Nat → va_E, g = fun _ => .inr (0, []) := ⟨_, rfl⟩
  have hP : va_P D vwCl (pw 0 ad G) s.heap := pw_P (fun k hk => absurd hk (Nat.not_lt_zero k))
  have hD : va_D (fun q : Nat => s.heap.size ≤ q) (pw 0 ad G) := ⟨fun i j x y hi => absurd (pw_lt hi).1 (Nat.not_lt_zero i), fun k q hk => absurd (pw_lt hk).1 (Nat.not_lt_zero k)⟩
  have hS : va_S (fun q : Nat => s.heap.size ≤ q) s.heap s.heap [] := va_S.rf
  refine zk_new (D := D) (C := RX10) (T := TX10) (N := 6) (ci := 10) hx hb hts hin10 tyX10 tyX10_ok hown q_classLink_RL_8_RX10 q_instantiable_RX10_6 q_initialized_RX10 hK hP hD hS hA rfl [.null, .null, .null, .null, .int (iZ (0)), .int (iZ (0))] (hfX10) (by show _ ≤ 601024; omega) (by show _ ≤ 7293034; omega) dL_law_0 (fun ad G H ha0 hn0 hP hD hS => ?_)
  have hP : va_P D vwCl (pw (0 + 1) ad G) H := by rw [show 0 + 1 = 0 + 1 by omega]; exact hP
  have hD : va_D (fun q : Nat => s.heap.size ≤ q) (pw (0 + 1) ad G) := by rw [show 0 + 1 = 0 + 1 by omega]; exact hD
  refine lv_dup hx hb dL_law_3 rfl ?_
  refine zc_Kv (As := []) (rest := [.ref (ad (0))]) ⟨hx, hb, hml, hown, hts⟩ (k_so l D cI cJ cE cF cR (_) (0) ad G (by omega) (hn0)) (cwI 0 hts gL_law_X10_init rfl rfl rfl q_initialized_RX10 q_methodLink_RL_59_yX10_init q_instanceMethod_yX10_init rfl (by decide +kernel) ⟨Nat.le_of_ble_eq_true rfl, Nat.le_of_ble_eq_true rfl⟩) hN hAO hK hP hD hS hA rfl hl.1 (Nat.le_of_ble_eq_true rfl) dL_law_4 ⟨by show _ ≤ 601024; omega, by show _ ≤ 7293034; omega⟩ (fun ad G H locs ha4 hao4 px4 hP hD hS => ?_)
  refine zk_st [.ref (ad (0))] (by rw [hao4]) ?_
  have hP : va_P D vwCl (pw (0 + 479) ad G) H := by rw [show 0 + 479 = 0 + 479 by omega]; exact hP
  have hD : va_D (fun q : Nat => s.heap.size ≤ q) (pw (0 + 479) ad G) := by rw [show 0 + 479 = 0 + 479 by omega]; exact hD
  have px4 : kSo cI cJ cE cF cR ad G (0) := px4
  refine lv_astore_n (lv' := [(1, .ref (ad (0))), (0, .ref (b))]) hx hb dL_law_7 rfl hl (by decide) rfl (fun ls hl => ?_)
  refine zk_new (D := D) (C := RX11) (T := TX11) (N := 14) (ci := 11) hx hb hts hin11 tyX11 tyX11_ok hown q_classLink_RL_60_RX11 q_instantiable_RX11_14 q_initialized_RX11 hK hP hD hS hA rfl [.null, .null, .null, .null, .null, .int (iZ (0)), .int (iZ (0)), .int (iZ (0)), .int (iZ (0)), .int (iZ (0)), .int (iZ (0)), .null, .int (iZ (0)), .null] (hfX11) (by show _ ≤ 601024; omega) (by show _ ≤ 7293034; omega) dL_law_8 (fun ad G H ha8 hn8 hP hD hS => ?_)
  have hl : lv_has ls 7 [(1, .ref (ad (0))), (0, .ref (b))] := by rw [(ha8 (0) (by omega)).1]; exact hl
  have px4 : kSo cI cJ cE cF cR ad G (0) := px4.mv (fun i h1 h2 => ha8 i (by omega))
  have hP : va_P D vwCl (pw (0 + 480) ad G) H := by rw [show 0 + 480 = 0 + 479 + 1 by omega]; exact hP
  have hD : va_D (fun q : Nat => s.heap.size ≤ q) (pw (0 + 480) ad G) := by rw [show 0 + 480 = 0 + 479 + 1 by omega]; exact hD
  refine lv_dup hx hb dL_law_11 rfl ?_
  refine zc_Kv (As := []) (rest := [.ref (ad (0 + 479))]) ⟨hx, hb, hml, hown, hts⟩ (k_mo l D cI cJ cE cF cR (_) (0 + 479) ad G (by omega) (hn8)) (cwI 0 hts gL_law_X11_init rfl rfl rfl q_initialized_RX11 q_methodLink_RL_62_yX11_init q_instanceMethod_yX11_init rfl (by decide +kernel) ⟨Nat.le_of_ble_eq_true rfl, Nat.le_of_ble_eq_true rfl⟩) hN hAO hK hP hD hS hA rfl hl.1 (Nat.le_of_ble_eq_true rfl) dL_law_12 ⟨by show _ ≤ 601024; omega, by show _ ≤ 7293034; omega⟩ (fun ad G H locs ha12 hao12 pm12 hP hD hS => ?_)
  have hl : lv_has ls 7 [(1, .ref (ad (0))), (0, .ref (b))] := by rw [(ha12 (0) (by omega)).1]; exact hl
  refine zk_st [.ref (ad (0 + 479))] (by rw [hao12]) ?_
  have px4 : kSo cI cJ cE cF cR ad G (0) := px4.mv (fun i h1 h2 => ha12 i (by omega))
  have hP : va_P D vwCl (pw (0 + 487) ad G) H := by rw [show 0 + 487 = 0 + 479 + 8 by omega]; exact hP
  have hD : va_D (fun q : Nat => s.heap.size ≤ q) (pw (0 + 487) ad G) := by rw [show 0 + 487 = 0 + 479 + 8 by omega]; exact hD
  have pm12 : kMo cI cJ ad G (0 + 479) := pm12
  refine lv_astore_n (lv' := [(2, .ref (ad (0 + 479))), (1, .ref (ad (0))), (0, .ref (b))]) hx hb dL_law_15 rfl hl (by decide) rfl (fun ls hl => ?_)
  refine lv_iconst (v := iZ 1) hx hb dL_law_16 rfl ?_
  refine zk_newJ hx hb q_arrayClass_long hK 1 rfl hP hD hS hA (1) (rfl) (by decide) (by show _ ≤ 601024; omega) (by show _ ≤ 7293034; omega) dL_law_17 (fun ad G H ha17 hn17 hP hD hS => ?_)
  have hl : lv_has ls 7 [(2, .ref (ad (0 + 479))), (1, .ref (ad (0))), (0, .ref (b))] := by rw [(ha17 (0) (by omega)).1, (ha17 (0 + 479) (by omega)).1]; exact hl
  have px4 : kSo cI cJ cE cF cR ad G (0) := px4.mv (fun i h1 h2 => ha17 i (by omega))
  have pm12 : kMo cI cJ ad G (0 + 479) := pm12.mv (fun i h1 h2 => ha17 i (by omega))
  have hP : va_P D vwCl (pw (0 + 488) ad G) H := by rw [show 0 + 488 = 0 + 487 + 1 by omega]; exact hP
  have hD : va_D (fun q : Nat => s.heap.size ≤ q) (pw (0 + 488) ad G) := by rw [show 0 + 488 = 0 + 487 + 1 by omega]; exact hD
  refine lv_astore_n (lv' := [(3, .ref (ad (0 + 487))), (2, .ref (ad (0 + 479))), (1, .ref (ad (0))), (0, .ref (b))]) hx hb dL_law_19 rfl hl (by decide) rfl (fun ls hl => ?_)
  refine lv_iconst (v := iZ 0) hx hb dL_law_20 rfl ?_
  refine lv_istore (lv' := [(4, .int (iZ (0))), (3, .ref (ad (0 + 487))), (2, .ref (ad (0 + 479))), (1, .ref (ad (0))), (0, .ref (b))]) hx hb dL_law_21 hl (by decide) rfl (fun ls hl => ?_)
  obtain ⟨ad', G', hs1, ha0, hg0, hPr, hDr⟩ := pw_rot 487 ad G
  have hP1 := hPr D H hP
  have hD1 := hDr _ hD
  have hso : kSo cI cJ cE cF cR ad' G' 1 := kSo.sh hs1 rfl px4
  have hmo : kMo cI cJ ad' G' 480 := kMo.sh hs1 rfl pm12
  have hP2 := kCn_P hso hP1
  have hD2 : va_D (fun q : Nat => s.heap.size ≤ q) (pw 488 ad' (kCn cE cF cR ad' G')) := pw_D hD1
  have hk480 : ∀ i : Nat, 433 ≤ i → kCn cE cF cR ad' G' i = G' i := fun i hi => kCn_f i (by omega)
  have hW : lwS cI cJ cE cF cR ad' (kCn cE cF cR ad' G') := ⟨fun _ => 0, 1, 0, 0, 0, fun _ => 0, pCs.made hso, (mSt.made hmo).keep (fun i hi => hk480 i (by omega)), by rw [kCn_f 0 (by omega), hg0]; exact hn17⟩
  have hl : lv_has ls 7 [(4, .int (iZ (((5 * 0 : Nat) : Int)))), (3, .ref (ad' 0)), (2, .ref (ad' 480)), (1, .ref (ad' 1)), (0, .ref (b))] := by
    rw [ha0, show ad' 480 = ad 479 from (hs1 479).1, show ad' 1 = ad 0 from (hs1 0).1]
    exact hl
  refine zk_cs (c' := 488 + 0) (s' := 67563 + 6 * 0) (by omega) (by omega) ?_
  exact lw_loop C hr hlk 512 0 _ H _ ls (by omega) (by omega) hW hP2 hD2 hS hl

set_option maxHeartbeats 4000000 in
theorem lw_walk (l : Launch) (hst : l.stackTraces = false) (b : Addr) (xs : List Int32) : MetFree l x (headSpec (Jvm.Cond.code x code maxLocals ret :: tables_1) room_1) (lw_P b xs) (fun _ _ _ _ _ => True) lw_Q := by
  refine MetFree.of_bodyS (code := code) (maxLocals := maxLocals) (ret := ret) (by decide) ?_ ?_
  · intro args s m h hn
    obtain ⟨meth, c, h1, h2, h3, h4, h5, h6, -, -⟩ := Cond.code_spec hn (atoms_spec (ws := Jvm.Cond.code x code maxLocals ret :: tables_1) h _ List.mem_cons_self)
    exact ⟨meth, c, h1, h2, h3, h4, h5, h6⟩
  · intro p e s m args below meth c s₁ B hml0 hP _
    obtain ⟨rfl, hx, hbd, hgv⟩ := hP
    obtain ⟨scr, harrAt, hlist, hof, hsmall⟩ := hx
    obtain ⟨hcb, hkn, -, -⟩ := State.arrayAt?_spec harrAt
    have hown : s.vm.findClass R_law = some m.cls := findClass_of_methodNamed B.named
    have hts0 : ∀ c ∈ (Jvm.Cond.code x code maxLocals ret :: tables_1), c.before #[Value.ref b] s = true := atoms_spec (ws := Jvm.Cond.code x code maxLocals ret :: tables_1) B.pre
    have hts : ∀ w ∈ lw_tbl, w.before #[Value.ref b] s = true := k2_hts_sels lw_privs (fun w hw => hts0 w (List.mem_cons_of_mem _ hw)) lw_privs_ok
    have hml : c.maxLocals = 7 := B.maxLocals_eq (hts0 _ List.mem_cons_self)
    have X₀ : Stand p l e room_1 s m #[Value.ref b] below meth c s₁ [] 0 0 := Stand.of_body B
    have hh0 : s₁.heap = s.heap := by rw [B.state]; rfl
    have hsz : scr.slots.size = xs.length := by rw [← Array.length_toList, hlist, List.length_map]
    have hval : ∀ j : Nat, j < xs.length → scr.slots[j]? = some (.int (xs.getD j 0)) := fun j hj => by
      rw [← Array.getElem?_toList, hlist]
      simp [hj]
    have hbl : b < s.heap.size := (Array.getElem?_eq_some_iff.mp hcb).1
    have hX : va_X b xs.length (fun j => xs.getD j 0) s s.heap := ⟨scr, hcb, hof, hkn, hsz, hval⟩
    have K : W p l e room_1 s m #[Value.ref b] below meth c s₁.heap [] 0 0 (lw_Z below #[Value.ref b] s) (entryFrame m ([Value.ref b] : List Value).toArray 7) := by
      rw [hh0]
      exact whole_start l hst hbd ⟨B.exec, B.bytes, B.returns, hml, hown, hts, hX, hbl, B.notSynchronized, hgv⟩
    obtain ⟨t, a1, o, b1, b2, b3⟩ := K s₁ rfl X₀
    exact ⟨t, o, a1, b1, b2, b3⟩
theorem lw_pre_spec {args : Array Value} {s : State} (h : (Jvm.Cond.and given_1 narrow_1).before args s = true) (hr : rest_1_c.before args s = true) : ∃ (b : Addr) (xs : List Int32), lw_P b xs args s := by
  have hs := flat_of_before _ h
  have hq := flat_of_before _ hr
  have hc : (Cond.count 1).before args s = true := hs _ (by decide +kernel)
  have harr : (Cond.arrayOf (.arg 0) .int).before args s = true := hs _ (by decide +kernel)
  have hle : (Cond.le (.length (.arg 0)) (.int 2560)).before args s = true := hs _ (by decide +kernel)
  have hlen : (Cond.isInt (.length (.arg 0))).before args s = true := hq _ (by decide +kernel)
  have hall : (Cond.all (.arg 0) (.isInt (.elem (.arg 0) (.index 0)))).before args s = true := hq _ (by decide +kernel)
  obtain ⟨b, xs, hb, hx⟩ := State.ints_of_pre rfl harr hlen hall
  have hsm : xs.length < 2 ^ 31 := hx.choose_spec.2.2.2
  have hev : (Term.length (.arg 0)).eval args s none [] s = some (.int xs.length.toInt32) := hx.length_eval hb
  have hv := Cond.le_ints hev (show (Term.int 2560).eval args s none [] s = some (.int 2560) from rfl)
  have hd : xs.length.toInt32 ≤ 2560 := by
    simpa [Cond.before, Cond.holds, hv] using hle
  have hN : xs.length ≤ 2560 := (Int32.ofNat_le_ofNat hsm (by decide)).mp (show Int32.ofNat xs.length ≤ Int32.ofNat 2560 from hd)
  exact ⟨b, xs, Cond.one_arg hc (show args[0]? = some (.ref b) from hb), hx, hN, h⟩
theorem lw_comes (l : Launch) (hst : l.stackTraces = false) : Comes l x (Jvm.Cond.code x code maxLocals ret :: tables_1) room_1 (fun tb e args s => Calls_1 tb e args s ∧ rest_1 tb e args s ∧ Pre_1 tb e args s)
    (fun _ _ args s o t => lw_Q args s o t) := by
  intro p e ha hc hk s m args below hf hfit hheap happ hpre
  obtain ⟨b, xs, hP⟩ := lw_pre_spec hpre.2.2 hpre.2.1
  obtain ⟨k, o, h1, h2, h3, hQ⟩ := lw_walk l hst b xs p e ha hc hk s m args below hf ((Spec.applies_iff_loose hf).mp happ).1 hP trivial
  exact ⟨k, o, h1, h2, h3, hQ⟩
theorem lw_frame {s t : State} {o : Outcome} {args : Array Value} (h : Framed s o t [] 601024 7293034) :
    Framed s o t (fieldLocs frame_1_writes args s ++ arrayLocs frame_1_arrays args s ++ staticLocs frame_1_statics s) 601024 7293034 := h
theorem lw_limb (L : Cond) (hL : ∀ (args : Array Value) (s t : State), L.after args s (.returned (some (.int 1))) t = true) :
    ArmFor flags0 classFile x code maxLocals ret World_1 tables_1 room_1 Calls_1 rest_1 Pre_1
      (fun tb e a s o t => postC L tb e a s o t ∧ Framed s o t (fieldLocs frame_1_writes a s ++ arrayLocs frame_1_arrays a s ++ staticLocs frame_1_statics s) 601024 7293034) := by
  intro l hfl _ _ p e ha hc hk s m args below hf hfit hheap happ hpre
  obtain ⟨k, o, h1, h2, h3, rfl, hF⟩ := lw_comes l (by unfold Launch.stackTraces; rw [hfl]; decide) p e ha hc hk s m args below hf hfit hheap happ hpre
  exact ⟨k, _, h1, h2, h3, hL args s _, lw_frame hF⟩
theorem i_vc : Claimed_1_1 ∧ Claimed_1_2 := ⟨lw_limb limb_1_1 (fun args s t => by simp [limb_1_1, Cond.after, Cond.holds, Cond.value]), lw_limb limb_1_2 (fun args s t => Cond.after_iff.mpr (by
  first | (rw [show limb_1_2 = Cond.eq .result (.int 1) from rfl, Cond.eq_ints (x := 1) (y := 1) rfl rfl]; simp; done) | (simp [limb_1_2, Cond.value, Term.eval]; done)))⟩
