/-! THE LAW: its script, its state -/
theorem iZ_val (x : Int32) : x = iZ x.toInt ∧ iR x.toInt := by
  have h1 := Int32.le_toInt x
  have h2 := Int32.toInt_lt x
  refine ⟨?_, ?_⟩
  · apply Int32.toInt_inj.mp
    rw [iZ_toInt ⟨by omega, by omega⟩]
  · exact ⟨by omega, by omega⟩
section ZLR
variable {p : Program} {l : Launch} {e : Env} {R : Room} {s : State} {m : MethodId} {args : Array Value} {below : List Frame} {meth : Method} {c : Code} {H : Heap} {locs : List Loc} {cells slots : Nat} {Q : State → Prop} {cc : ByteArray} {pc : Nat} {ls : Array Slot} {rest : List Value} {A : Nat → Prop}
theorem zl_sld (hx : p.tables.exec = Jvm.exec) (hb : c.code = cc) {b L : Nat} {xs : Nat → Int32} (hX : va_X b L xs s s.heap) (hbl : b < s.heap.size) (hbA : ¬ A b) (hS : va_S A s.heap H locs) {z : Int} (k : Nat) (hz : z = (k : Int)) (hk : k < L) (hL : L ≤ 2560) (hd : decode cc pc = .ok (.iaload, 1))
    (kk : W p l e R s m args below meth c H locs cells slots Q (F0 m (pc + 1) ls (.int (iZ (xs k).toInt) :: rest))) : W p l e R s m args below meth c H locs cells slots Q (F0 m pc ls (.int (iZ z) :: .ref b :: rest)) := by
  subst hz
  have e1 : (iZ (k : Int)).toNatClampNeg = k := iZ_clamp (by omega)
  have hin : vp_in (iZ (k : Int)) L := by
    rintro (h | h)
    · rw [show (0 : Int32) = iZ 0 from rfl, iZ_lt ⟨by omega, by omega⟩ (by decide)] at h; omega
    · rw [e1] at h; omega
  refine va_sld hx hb hX hbl hbA hS hin hd ?_
  rw [e1]
  rw [← (iZ_val (xs k)).1] at kk
  exact kk
theorem zl_slen (hx : p.tables.exec = Jvm.exec) (hb : c.code = cc) {b L : Nat} {xs : Nat → Int32} (hX : va_X b L xs s s.heap) (hbl : b < s.heap.size) (hbA : ¬ A b) (hS : va_S A s.heap H locs) (hL : L ≤ 2560) (hd : decode cc pc = .ok (.arraylength, 1))
    (kk : W p l e R s m args below meth c H locs cells slots Q (F0 m (pc + 1) ls (.int (iZ ((L : Nat) : Int)) :: rest))) : W p l e R s m args below meth c H locs cells slots Q (F0 m pc ls (.ref b :: rest)) := by
  refine va_slen hx hb hX hbl hbA hS hd ?_
  exact kk
theorem zl_tin (hx : p.tables.exec = Jvm.exec) (hb : c.code = cc) {dflt lo hi : Int} {offs : Array Int} {len : Nat} {z : Int} (off : Int) (tgt : Nat) (hd : decode cc pc = .ok (.tableswitch dflt lo hi offs, len)) (hz : iR z) (h1 : ¬ z < lo) (h2 : ¬ hi < z) (ho : offs[(z - lo).toNat]? = some off) (ht : (pc : Int) + off = (tgt : Int)) (kk : W p l e R s m args below meth c H locs cells slots Q (F0 m tgt ls rest)) : W p l e R s m args below meth c H locs cells slots Q (F0 m pc ls (.int (iZ z) :: rest)) :=
  lv_tableIn hx hb hd (by rw [iZ_toInt hz]; exact h1) (by rw [iZ_toInt hz]; exact h2) (by rw [iZ_toInt hz]; exact ho) ht kk
theorem zl_tout (hx : p.tables.exec = Jvm.exec) (hb : c.code = cc) {dflt lo hi : Int} {offs : Array Int} {len : Nat} {z : Int} (tgt : Nat) (hd : decode cc pc = .ok (.tableswitch dflt lo hi offs, len)) (hz : iR z) (h : z < lo ∨ hi < z) (ht : (pc : Int) + dflt = (tgt : Int)) (kk : W p l e R s m args below meth c H locs cells slots Q (F0 m tgt ls rest)) : W p l e R s m args below meth c H locs cells slots Q (F0 m pc ls (.int (iZ z) :: rest)) :=
  lv_tableOut hx hb hd (by rw [iZ_toInt hz]; exact h) ht kk
end ZLR

/-- the standing facts of the law's walk -/
def lwC (p : Program) (l : Launch) (s : State) (m : MethodId) (c : Code) (b L : Nat) (xs : Nat → Int32) (D : va_G) (cI cJ cE cF cR : ClassId) (A : Nat → Prop) : Prop := p.tables.exec = Jvm.exec ∧ c.code = cL_law ∧ c.maxLocals = 7 ∧ s.vm.findClass RL = some m.cls ∧ (∀ w ∈ wsL_law, w.before #[Value.ref b] s = true) ∧ l.stackTraces = false ∧ zN s ∧ zX A s ∧ zHC s ∧ va_K D vwCl (zty cI cJ cE cF cR) s ∧ (∀ q : Nat, s.heap.size ≤ q → A q) ∧ va_X b L xs s s.heap ∧ b < s.heap.size ∧ ¬ A b ∧ L ≤ 2560
/-- class and reference tell the same -/
def lwS (cI cJ cE cF cR : ClassId) (ad : Nat → Nat) (G : Nat → va_E) : Prop := ∃ (V : Nat → Rat) (n : Nat) (wd el th : Int) (o : Nat → Int), pCs cI cJ cE cF cR 488 ad G V n wd el ∧ mSt cI cJ ad G V n el th ∧ G 0 = aJ cJ 1 o
theorem mSt.obj {cI cJ : ClassId} {ad : Nat → Nat} {G : Nat → va_E} {V : Nat → Rat} {nn : Nat} {dn th : Int} (h : mSt cI cJ ad G V nn dn th) : ∃ fs : List Value, G 480 = .inr (11, fs) := by
  obtain ⟨F, Ln, Sg, T0, B0, PR, RS, sv, rk, tn, ms, q0, _⟩ := h
  exact ⟨_, q0⟩
theorem bg_lm_u {v z x y : Int} (h1 : bg_lm v z x) (h2 : bg_lm v z y) : x = y := by
  rcases h1 with ⟨a1, a2⟩ | ⟨k, u, a1, a2, a3, a4⟩ <;> rcases h2 with ⟨b1, b2⟩ | ⟨k', u', b1, b2, b3, b4⟩
  · omega
  · exfalso
    rcases a1 with q | ⟨w, q1, q2⟩
    · omega
    · have := bg_lc_uniq q1 b2; omega
  · exfalso
    rcases b1 with q | ⟨w, q1, q2⟩
    · omega
    · have := bg_lc_uniq q1 a2; omega
  · have : k = k' := by omega
    subst this; rw [a4, b4]
theorem bg_tl_u {sg vn vd wh z r1 r2 : Int} (h1 : bg_tl sg vn vd wh z r1) (h2 : bg_tl sg vn vd wh z r2) : r1 = r2 := md_ans h1 h2 (fun _ _ _ a b => bg_lm_u a b)

theorem la_size {cI cJ cE cF cR : ClassId} {ad : Nat → Nat} {G1 G2 : Nat → va_E} {V : Nat → Rat} {n : Nat} {wd el k9 : Int} {y1 : Int} {o0 : Nat → Int} (hh : (k9 = 0 ∧ ¬ (y1 < 1 ∨ 6 < y1) ∧ pCs cI cJ cE cF cR 488 ad G1 (fun _ => 0) (y1.toNat) (0) (0)) ∨ (k9 = 1 ∧ (y1 < 1 ∨ 6 < y1) ∧ pCs cI cJ cE cF cR 488 ad G1 (V) (n) (wd) (el))) (hG0 : G1 0 = aJ cJ 1 o0) (hm : ∃ tc : Int, ((y1 < 1 ∨ 6 < y1) ∧ tc = 1 ∧ mSt cI cJ ad G2 (V) (n) (el) (tc)) ∨ ((1 ≤ y1 ∧ y1 ≤ 6) ∧ tc = 0 ∧ mSt cI cJ ad G2 (fun _ => 0) (y1.toNat) (0) (tc))) (ho2 : ∀ i9 : Nat, i9 < 480 ∨ 487 < i9 → G2 i9 = G1 i9) : ∃ (V1 : Nat → Rat) (n1 : Nat) (wd1 el1 tc : Int), pCs cI cJ cE cF cR 488 ad G2 (V1) (n1) (wd1) (el1) ∧ mSt cI cJ ad G2 (V1) (n1) (el1) (tc) ∧ G2 0 = aJ cJ 1 o0 ∧ tc = k9 ∧ (k9 = 0 ∨ k9 = 1 ∨ k9 = 2) := by
  obtain ⟨tc, hm⟩ := hm
  rcases hh with ⟨a0, a1, a2⟩ | ⟨a0, a1, a2⟩ <;> rcases hm with ⟨b1, b2, b3⟩ | ⟨b1, b2, b3⟩
  · exfalso; omega
  · exact ⟨_, _, _, _, tc, a2.at0 (fun i _ h9 => ho2 i (Or.inl h9)), b3, (ho2 0 (by omega)).trans hG0, by omega, by omega⟩
  · exact ⟨_, _, _, _, tc, a2.at0 (fun i _ h9 => ho2 i (Or.inl h9)), b3, (ho2 0 (by omega)).trans hG0, by omega, by omega⟩
  · exfalso; omega

set_option maxHeartbeats 1000000 in
theorem la_set {cI cJ cE cF cR : ClassId} {ad : Nat → Nat} {G1 G2 : Nat → va_E} {V : Nat → Rat} {n : Nat} {wd el k9 r : Int} {y1 y2 y3 y4 : Int} (hh : (k9 = 0 ∧ ∃ z9 : Int, iR z9 ∧ ¬ (y1 < 0 ∨ (n : Int) ≤ y1 ∨ y2 < 0 ∨ (n : Int) ≤ y2) ∧ y4 ≠ 0 ∧ z9 = ((mta (zu V (7 * y1.toNat + y2.toNat) (mkRat (if y4 < 0 then -y3 else y3) y4.natAbs)) n n : Nat) : Int) ∧ pCs cI cJ cE cF cR 488 ad G1 (zu V (7 * y1.toNat + y2.toNat) (mkRat (if y4 < 0 then -y3 else y3) y4.natAbs)) (n) (0) (0) ∧ ∃ o1 : Nat → Int, G1 0 = aJ cJ 1 o1 ∧ o1 0 = z9) ∨ (k9 = 1 ∧ (y1 < 0 ∨ (n : Int) ≤ y1 ∨ y2 < 0 ∨ (n : Int) ≤ y2) ∧ pCs cI cJ cE cF cR 488 ad G1 (V) (n) (wd) (el) ∧ ∃ o1 : Nat → Int, G1 0 = aJ cJ 1 o1) ∨ (k9 = 2 ∧ (¬ (y1 < 0 ∨ (n : Int) ≤ y1 ∨ y2 < 0 ∨ (n : Int) ≤ y2) ∧ y4 = 0) ∧ pCs cI cJ cE cF cR 488 ad G1 (V) (n) (wd) (el) ∧ ∃ o1 : Nat → Int, G1 0 = aJ cJ 1 o1)) (hm : ∃ tc : Int, ((y1 < 0 ∨ (n : Int) ≤ y1 ∨ y2 < 0 ∨ (n : Int) ≤ y2) ∧ tc = 1 ∧ mSt cI cJ ad G2 (V) (n) (el) (tc)) ∨ (¬ (y1 < 0 ∨ (n : Int) ≤ y1 ∨ y2 < 0 ∨ (n : Int) ≤ y2) ∧ y4 = 0 ∧ tc = 2 ∧ mSt cI cJ ad G2 (V) (n) (el) (tc)) ∨ (¬ (y1 < 0 ∨ (n : Int) ≤ y1 ∨ y2 < 0 ∨ (n : Int) ≤ y2) ∧ y4 ≠ 0 ∧ tc = 0 ∧ mSt cI cJ ad G2 (zu V (7 * y1.toNat + y2.toNat) (mkRat (if y4 < 0 then -y3 else y3) y4.natAbs)) (n) (0) (tc) ∧ r = ((mta (zu V (7 * y1.toNat + y2.toNat) (mkRat (if y4 < 0 then -y3 else y3) y4.natAbs)) n n : Nat) : Int))) (ho2 : ∀ i9 : Nat, i9 < 480 ∨ 487 < i9 → G2 i9 = G1 i9) : ∃ (V1 : Nat → Rat) (n1 : Nat) (wd1 el1 tc : Int) (o1 : Nat → Int), pCs cI cJ cE cF cR 488 ad G2 (V1) (n1) (wd1) (el1) ∧ mSt cI cJ ad G2 (V1) (n1) (el1) (tc) ∧ G2 0 = aJ cJ 1 o1 ∧ tc = k9 ∧ (k9 = 0 → o1 0 = r) ∧ (k9 = 0 ∨ k9 = 1 ∨ k9 = 2) := by
  obtain ⟨tc, hm⟩ := hm
  rcases hh with ⟨a0, z9, a1, a2, a3, a4, a7, o1, a8, a9⟩ | ⟨a0, a1, a7, o1, a8⟩ | ⟨a0, a1, a7, o1, a8⟩ <;> rcases hm with ⟨b1, b2, b3⟩ | ⟨b1, b2, b3, b4⟩ | ⟨b1, b2, b3, b4, b5⟩
  · exfalso; omega
  · exfalso; omega
  · exact ⟨_, _, _, _, tc, o1, a7.at0 (fun i _ h9 => ho2 i (Or.inl h9)), b4, (ho2 0 (by omega)).trans a8, by omega, fun _ => by rw [a9, a4, b5], by omega⟩
  · exact ⟨_, _, _, _, tc, o1, a7.at0 (fun i _ h9 => ho2 i (Or.inl h9)), b3, (ho2 0 (by omega)).trans a8, by omega, fun h9 => absurd h9 (by omega), by omega⟩
  · exfalso; omega
  · exfalso; omega
  · exfalso; omega
  · exact ⟨_, _, _, _, tc, o1, a7.at0 (fun i _ h9 => ho2 i (Or.inl h9)), b4, (ho2 0 (by omega)).trans a8, by omega, fun h9 => absurd h9 (by omega), by omega⟩
  · exfalso; omega

set_option maxHeartbeats 1000000 in
theorem la_right {cI cJ cE cF cR : ClassId} {ad : Nat → Nat} {G1 G2 : Nat → va_E} {V : Nat → Rat} {n : Nat} {wd el k9 r : Int} {y1 y3 y4 : Int} (hh : (k9 = 0 ∧ ∃ z9 : Int, iR z9 ∧ ¬ (y1 < 0 ∨ (n : Int) ≤ y1) ∧ y4 ≠ 0 ∧ z9 = ((mta (zu V (7 * y1.toNat + n) (mkRat (if y4 < 0 then -y3 else y3) y4.natAbs)) n n : Nat) : Int) ∧ pCs cI cJ cE cF cR 488 ad G1 (zu V (7 * y1.toNat + n) (mkRat (if y4 < 0 then -y3 else y3) y4.natAbs)) (n) (0) (0) ∧ ∃ o1 : Nat → Int, G1 0 = aJ cJ 1 o1 ∧ o1 0 = z9) ∨ (k9 = 1 ∧ (y1 < 0 ∨ (n : Int) ≤ y1) ∧ pCs cI cJ cE cF cR 488 ad G1 (V) (n) (wd) (el) ∧ ∃ o1 : Nat → Int, G1 0 = aJ cJ 1 o1) ∨ (k9 = 2 ∧ (¬ (y1 < 0 ∨ (n : Int) ≤ y1) ∧ y4 = 0) ∧ pCs cI cJ cE cF cR 488 ad G1 (V) (n) (wd) (el) ∧ ∃ o1 : Nat → Int, G1 0 = aJ cJ 1 o1)) (hm : ∃ tc : Int, ((y1 < 0 ∨ (n : Int) ≤ y1) ∧ tc = 1 ∧ mSt cI cJ ad G2 (V) (n) (el) (tc)) ∨ (¬ (y1 < 0 ∨ (n : Int) ≤ y1) ∧ y4 = 0 ∧ tc = 2 ∧ mSt cI cJ ad G2 (V) (n) (el) (tc)) ∨ (¬ (y1 < 0 ∨ (n : Int) ≤ y1) ∧ y4 ≠ 0 ∧ tc = 0 ∧ mSt cI cJ ad G2 (zu V (7 * y1.toNat + n) (mkRat (if y4 < 0 then -y3 else y3) y4.natAbs)) (n) (0) (tc) ∧ r = ((mta (zu V (7 * y1.toNat + n) (mkRat (if y4 < 0 then -y3 else y3) y4.natAbs)) n n : Nat) : Int))) (ho2 : ∀ i9 : Nat, i9 < 480 ∨ 487 < i9 → G2 i9 = G1 i9) : ∃ (V1 : Nat → Rat) (n1 : Nat) (wd1 el1 tc : Int) (o1 : Nat → Int), pCs cI cJ cE cF cR 488 ad G2 (V1) (n1) (wd1) (el1) ∧ mSt cI cJ ad G2 (V1) (n1) (el1) (tc) ∧ G2 0 = aJ cJ 1 o1 ∧ tc = k9 ∧ (k9 = 0 → o1 0 = r) ∧ (k9 = 0 ∨ k9 = 1 ∨ k9 = 2) := by
  obtain ⟨tc, hm⟩ := hm
  rcases hh with ⟨a0, z9, a1, a2, a3, a4, a7, o1, a8, a9⟩ | ⟨a0, a1, a7, o1, a8⟩ | ⟨a0, a1, a7, o1, a8⟩ <;> rcases hm with ⟨b1, b2, b3⟩ | ⟨b1, b2, b3, b4⟩ | ⟨b1, b2, b3, b4, b5⟩
  · exfalso; omega
  · exfalso; omega
  · exact ⟨_, _, _, _, tc, o1, a7.at0 (fun i _ h9 => ho2 i (Or.inl h9)), b4, (ho2 0 (by omega)).trans a8, by omega, fun _ => by rw [a9, a4, b5], by omega⟩
  · exact ⟨_, _, _, _, tc, o1, a7.at0 (fun i _ h9 => ho2 i (Or.inl h9)), b3, (ho2 0 (by omega)).trans a8, by omega, fun h9 => absurd h9 (by omega), by omega⟩
  · exfalso; omega
  · exfalso; omega
  · exfalso; omega
  · exact ⟨_, _, _, _, tc, o1, a7.at0 (fun i _ h9 => ho2 i (Or.inl h9)), b4, (ho2 0 (by omega)).trans a8, by omega, fun h9 => absurd h9 (by omega), by omega⟩
  · exfalso; omega

set_option maxHeartbeats 1000000 in
theorem la_isSolvable {cI cJ cE cF cR : ClassId} {ad : Nat → Nat} {G1 G2 : Nat → va_E} {V : Nat → Rat} {n : Nat} {wd el k9 r : Int} (hh : (k9 = 0 ∧ ∃ z9 : Int, iR z9 ∧ el = 1 ∧ z9 = pe_svk (peM (pe V n n)) n (peR (pe V n n)) (n - peR (pe V n n)) ∧ pCs cI cJ cE cF cR 488 ad G1 (V) (n) (wd) (el) ∧ ∃ o1 : Nat → Int, G1 0 = aJ cJ 1 o1 ∧ o1 0 = z9) ∨ (k9 = 1 ∧ (el = 0) ∧ pCs cI cJ cE cF cR 488 ad G1 (V) (n) (wd) (el) ∧ ∃ o1 : Nat → Int, G1 0 = aJ cJ 1 o1)) (hm : ∃ tc : Int, ((el = 0 ∧ tc = 1) ∨ (el = 1 ∧ tc = 0 ∧ r = pe_svk (peM (pe V n n)) n (peR (pe V n n)) (n - peR (pe V n n)))) ∧ mSt cI cJ ad G2 (V) (n) (el) (tc)) (ho2 : ∀ i9 : Nat, i9 < 480 ∨ 487 < i9 → G2 i9 = G1 i9) : ∃ (V1 : Nat → Rat) (n1 : Nat) (wd1 el1 tc : Int) (o1 : Nat → Int), pCs cI cJ cE cF cR 488 ad G2 (V1) (n1) (wd1) (el1) ∧ mSt cI cJ ad G2 (V1) (n1) (el1) (tc) ∧ G2 0 = aJ cJ 1 o1 ∧ tc = k9 ∧ (k9 = 0 → o1 0 = r) ∧ (k9 = 0 ∨ k9 = 1 ∨ k9 = 2) := by
  obtain ⟨tc, hm, b4⟩ := hm
  rcases hh with ⟨a0, z9, a1, a2, a3, a7, o1, a8, a9⟩ | ⟨a0, a1, a7, o1, a8⟩ <;> rcases hm with ⟨b1, b2⟩ | ⟨b1, b2, b3⟩
  · exfalso; omega
  · exact ⟨_, _, _, _, tc, o1, a7.at0 (fun i _ h9 => ho2 i (Or.inl h9)), b4, (ho2 0 (by omega)).trans a8, by omega, fun _ => by rw [a9, a3, b3], by omega⟩
  · exact ⟨_, _, _, _, tc, o1, a7.at0 (fun i _ h9 => ho2 i (Or.inl h9)), b4, (ho2 0 (by omega)).trans a8, by omega, fun h9 => absurd h9 (by omega), by omega⟩
  · exfalso; omega

set_option maxHeartbeats 1000000 in
theorem la_most {cI cJ cE cF cR : ClassId} {ad : Nat → Nat} {G1 G2 : Nat → va_E} {V : Nat → Rat} {n : Nat} {wd el k9 r : Int} (hh : (k9 = 0 ∧ ∃ z9 : Int, iR z9 ∧ el = 1 ∧ z9 = ((peH (pe V n n) : Nat) : Int) ∧ pCs cI cJ cE cF cR 488 ad G1 (V) (n) (wd) (el) ∧ ∃ o1 : Nat → Int, G1 0 = aJ cJ 1 o1 ∧ o1 0 = z9) ∨ (k9 = 1 ∧ (el = 0) ∧ pCs cI cJ cE cF cR 488 ad G1 (V) (n) (wd) (el) ∧ ∃ o1 : Nat → Int, G1 0 = aJ cJ 1 o1)) (hm : ∃ tc : Int, ((el = 0 ∧ tc = 1) ∨ (el = 1 ∧ tc = 0 ∧ r = ((peH (pe V n n) : Nat) : Int))) ∧ mSt cI cJ ad G2 (V) (n) (el) (tc)) (ho2 : ∀ i9 : Nat, i9 < 480 ∨ 487 < i9 → G2 i9 = G1 i9) : ∃ (V1 : Nat → Rat) (n1 : Nat) (wd1 el1 tc : Int) (o1 : Nat → Int), pCs cI cJ cE cF cR 488 ad G2 (V1) (n1) (wd1) (el1) ∧ mSt cI cJ ad G2 (V1) (n1) (el1) (tc) ∧ G2 0 = aJ cJ 1 o1 ∧ tc = k9 ∧ (k9 = 0 → o1 0 = r) ∧ (k9 = 0 ∨ k9 = 1 ∨ k9 = 2) := by
  obtain ⟨tc, hm, b4⟩ := hm
  rcases hh with ⟨a0, z9, a1, a2, a3, a7, o1, a8, a9⟩ | ⟨a0, a1, a7, o1, a8⟩ <;> rcases hm with ⟨b1, b2⟩ | ⟨b1, b2, b3⟩
  · exfalso; omega
  · exact ⟨_, _, _, _, tc, o1, a7.at0 (fun i _ h9 => ho2 i (Or.inl h9)), b4, (ho2 0 (by omega)).trans a8, by omega, fun _ => by rw [a9, a3, b3], by omega⟩
  · exact ⟨_, _, _, _, tc, o1, a7.at0 (fun i _ h9 => ho2 i (Or.inl h9)), b4, (ho2 0 (by omega)).trans a8, by omega, fun h9 => absurd h9 (by omega), by omega⟩
  · exfalso; omega

set_option maxHeartbeats 1000000 in
theorem la_pivot {cI cJ cE cF cR : ClassId} {ad : Nat → Nat} {G1 G2 : Nat → va_E} {V : Nat → Rat} {n : Nat} {wd el k9 r : Int} {y1 : Int} (hh : (k9 = 0 ∧ ∃ z9 : Int, iR z9 ∧ ¬ (y1 < 0 ∨ (n : Int) ≤ y1) ∧ el = 1 ∧ z9 = peP (pe V n n) y1.toNat ∧ pCs cI cJ cE cF cR 488 ad G1 (V) (n) (wd) (el) ∧ ∃ o1 : Nat → Int, G1 0 = aJ cJ 1 o1 ∧ o1 0 = z9) ∨ (k9 = 1 ∧ (y1 < 0 ∨ (n : Int) ≤ y1) ∧ pCs cI cJ cE cF cR 488 ad G1 (V) (n) (wd) (el) ∧ ∃ o1 : Nat → Int, G1 0 = aJ cJ 1 o1) ∨ (k9 = 2 ∧ (¬ (y1 < 0 ∨ (n : Int) ≤ y1) ∧ el = 0) ∧ pCs cI cJ cE cF cR 488 ad G1 (V) (n) (wd) (el) ∧ ∃ o1 : Nat → Int, G1 0 = aJ cJ 1 o1)) (hm : ∃ tc : Int, ((((y1 < 0 ∨ (n : Int) ≤ y1) ∧ tc = 1) ∨ (¬ (y1 < 0 ∨ (n : Int) ≤ y1) ∧ el = 0 ∧ tc = 2) ∨ (¬ (y1 < 0 ∨ (n : Int) ≤ y1) ∧ el = 1 ∧ tc = 0 ∧ r = peP (pe V n n) y1.toNat))) ∧ mSt cI cJ ad G2 (V) (n) (el) (tc)) (ho2 : ∀ i9 : Nat, i9 < 480 ∨ 487 < i9 → G2 i9 = G1 i9) : ∃ (V1 : Nat → Rat) (n1 : Nat) (wd1 el1 tc : Int) (o1 : Nat → Int), pCs cI cJ cE cF cR 488 ad G2 (V1) (n1) (wd1) (el1) ∧ mSt cI cJ ad G2 (V1) (n1) (el1) (tc) ∧ G2 0 = aJ cJ 1 o1 ∧ tc = k9 ∧ (k9 = 0 → o1 0 = r) ∧ (k9 = 0 ∨ k9 = 1 ∨ k9 = 2) := by
  obtain ⟨tc, hm, b4⟩ := hm
  rcases hh with ⟨a0, z9, a1, a2, a3, a4, a7, o1, a8, a9⟩ | ⟨a0, a1, a7, o1, a8⟩ | ⟨a0, a1, a7, o1, a8⟩ <;> rcases hm with ⟨b1, b2⟩ | ⟨b1, b0, b2⟩ | ⟨b1, b0, b2, b3⟩
  · exfalso; omega
  · exfalso; omega
  · exact ⟨_, _, _, _, tc, o1, a7.at0 (fun i _ h9 => ho2 i (Or.inl h9)), b4, (ho2 0 (by omega)).trans a8, by omega, fun _ => by rw [a9, a4, b3], by omega⟩
  · exact ⟨_, _, _, _, tc, o1, a7.at0 (fun i _ h9 => ho2 i (Or.inl h9)), b4, (ho2 0 (by omega)).trans a8, by omega, fun h9 => absurd h9 (by omega), by omega⟩
  · exfalso; omega
  · exfalso; omega
  · exfalso; omega
  · exact ⟨_, _, _, _, tc, o1, a7.at0 (fun i _ h9 => ho2 i (Or.inl h9)), b4, (ho2 0 (by omega)).trans a8, by omega, fun h9 => absurd h9 (by omega), by omega⟩
  · exfalso; omega

set_option maxHeartbeats 1000000 in
theorem la_determinant {cI cJ cE cF cR : ClassId} {ad : Nat → Nat} {G1 G2 : Nat → va_E} {V : Nat → Rat} {n : Nat} {wd el k9 r : Int} {y2 y3 : Int} (hh : (k9 = 0 ∧ ∃ z9 : Int, iR z9 ∧ ¬ (y2 < 0 ∨ 2 < y2) ∧ el = 1 ∧ bg_tl ((if peR (pe V n n) = n then pe_dt (peM (pe V n n)) (peT (pe V n n)) n else 0)).num.sign ((((if peR (pe V n n) = n then pe_dt (peM (pe V n n)) (peT (pe V n n)) n else 0)).num.natAbs : Nat) : Int) ((((if peR (pe V n n) = n then pe_dt (peM (pe V n n)) (peT (pe V n n)) n else 0)).den : Nat) : Int) y2 y3 z9 ∧ pCs cI cJ cE cF cR 488 ad G1 (V) (n) (wd) (el) ∧ ∃ o1 : Nat → Int, G1 0 = aJ cJ 1 o1 ∧ o1 0 = z9) ∨ (k9 = 1 ∧ (y2 < 0 ∨ 2 < y2) ∧ pCs cI cJ cE cF cR 488 ad G1 (V) (n) (wd) (el) ∧ ∃ o1 : Nat → Int, G1 0 = aJ cJ 1 o1) ∨ (k9 = 2 ∧ (¬ (y2 < 0 ∨ 2 < y2) ∧ el = 0) ∧ pCs cI cJ cE cF cR 488 ad G1 (V) (n) (wd) (el) ∧ ∃ o1 : Nat → Int, G1 0 = aJ cJ 1 o1)) (hm : ∃ tc : Int, ((((y2 < 0 ∨ 2 < y2) ∧ tc = 1) ∨ (¬ (y2 < 0 ∨ 2 < y2) ∧ el = 0 ∧ tc = 2) ∨ (¬ (y2 < 0 ∨ 2 < y2) ∧ el = 1 ∧ tc = 0 ∧ bg_tl (if peR (pe V n n) = n then pe_dt (peM (pe V n n)) (peT (pe V n n)) n else 0).num.sign (((if peR (pe V n n) = n then pe_dt (peM (pe V n n)) (peT (pe V n n)) n else 0).num.natAbs : Nat) : Int) (((if peR (pe V n n) = n then pe_dt (peM (pe V n n)) (peT (pe V n n)) n else 0).den : Nat) : Int) y2 y3 r))) ∧ mSt cI cJ ad G2 (V) (n) (el) (tc)) (ho2 : ∀ i9 : Nat, i9 < 480 ∨ 487 < i9 → G2 i9 = G1 i9) : ∃ (V1 : Nat → Rat) (n1 : Nat) (wd1 el1 tc : Int) (o1 : Nat → Int), pCs cI cJ cE cF cR 488 ad G2 (V1) (n1) (wd1) (el1) ∧ mSt cI cJ ad G2 (V1) (n1) (el1) (tc) ∧ G2 0 = aJ cJ 1 o1 ∧ tc = k9 ∧ (k9 = 0 → o1 0 = r) ∧ (k9 = 0 ∨ k9 = 1 ∨ k9 = 2) := by
  obtain ⟨tc, hm, b4⟩ := hm
  rcases hh with ⟨a0, z9, a1, a2, a3, a4, a7, o1, a8, a9⟩ | ⟨a0, a1, a7, o1, a8⟩ | ⟨a0, a1, a7, o1, a8⟩ <;> rcases hm with ⟨b1, b2⟩ | ⟨b1, b0, b2⟩ | ⟨b1, b0, b2, b3⟩
  · exfalso; omega
  · exfalso; omega
  · exact ⟨_, _, _, _, tc, o1, a7.at0 (fun i _ h9 => ho2 i (Or.inl h9)), b4, (ho2 0 (by omega)).trans a8, by omega, fun _ => by rw [a9]; exact bg_tl_u a4 b3, by omega⟩
  · exact ⟨_, _, _, _, tc, o1, a7.at0 (fun i _ h9 => ho2 i (Or.inl h9)), b4, (ho2 0 (by omega)).trans a8, by omega, fun h9 => absurd h9 (by omega), by omega⟩
  · exfalso; omega
  · exfalso; omega
  · exfalso; omega
  · exact ⟨_, _, _, _, tc, o1, a7.at0 (fun i _ h9 => ho2 i (Or.inl h9)), b4, (ho2 0 (by omega)).trans a8, by omega, fun h9 => absurd h9 (by omega), by omega⟩
  · exfalso; omega

set_option maxHeartbeats 1000000 in
theorem la_cell {cI cJ cE cF cR : ClassId} {ad : Nat → Nat} {G1 G2 : Nat → va_E} {V : Nat → Rat} {n : Nat} {wd el k9 r : Int} {y1 y4 y2 y3 : Int} (hh : (k9 = 0 ∧ ∃ z9 : Int, iR z9 ∧ ¬ ((y1 < 0 ∨ (n : Int) ≤ y1 ∨ y4 < 0 ∨ (n : Int) < y4) ∨ (y2 < 0 ∨ 2 < y2)) ∧ el = 1 ∧ bg_tl (peM (pe V n n) y1.toNat y4.toNat).num.sign (((peM (pe V n n) y1.toNat y4.toNat).num.natAbs : Nat) : Int) (((peM (pe V n n) y1.toNat y4.toNat).den : Nat) : Int) y2 y3 z9 ∧ pCs cI cJ cE cF cR 488 ad G1 (V) (n) (wd) (el) ∧ ∃ o1 : Nat → Int, G1 0 = aJ cJ 1 o1 ∧ o1 0 = z9) ∨ (k9 = 1 ∧ ((y1 < 0 ∨ (n : Int) ≤ y1 ∨ y4 < 0 ∨ (n : Int) < y4) ∨ (y2 < 0 ∨ 2 < y2)) ∧ pCs cI cJ cE cF cR 488 ad G1 (V) (n) (wd) (el) ∧ ∃ o1 : Nat → Int, G1 0 = aJ cJ 1 o1) ∨ (k9 = 2 ∧ (¬ ((y1 < 0 ∨ (n : Int) ≤ y1 ∨ y4 < 0 ∨ (n : Int) < y4) ∨ (y2 < 0 ∨ 2 < y2)) ∧ el = 0) ∧ pCs cI cJ cE cF cR 488 ad G1 (V) (n) (wd) (el) ∧ ∃ o1 : Nat → Int, G1 0 = aJ cJ 1 o1)) (hm : ∃ tc : Int, (((((y1 < 0 ∨ (n : Int) ≤ y1 ∨ y4 < 0 ∨ (n : Int) < y4) ∨ (y2 < 0 ∨ 2 < y2)) ∧ tc = 1) ∨ (¬ ((y1 < 0 ∨ (n : Int) ≤ y1 ∨ y4 < 0 ∨ (n : Int) < y4) ∨ (y2 < 0 ∨ 2 < y2)) ∧ el = 0 ∧ tc = 2) ∨ (¬ ((y1 < 0 ∨ (n : Int) ≤ y1 ∨ y4 < 0 ∨ (n : Int) < y4) ∨ (y2 < 0 ∨ 2 < y2)) ∧ el = 1 ∧ tc = 0 ∧ bg_tl (peM (pe V n n) y1.toNat y4.toNat).num.sign (((peM (pe V n n) y1.toNat y4.toNat).num.natAbs : Nat) : Int) (((peM (pe V n n) y1.toNat y4.toNat).den : Nat) : Int) y2 y3 r))) ∧ mSt cI cJ ad G2 (V) (n) (el) (tc)) (ho2 : ∀ i9 : Nat, i9 < 480 ∨ 487 < i9 → G2 i9 = G1 i9) : ∃ (V1 : Nat → Rat) (n1 : Nat) (wd1 el1 tc : Int) (o1 : Nat → Int), pCs cI cJ cE cF cR 488 ad G2 (V1) (n1) (wd1) (el1) ∧ mSt cI cJ ad G2 (V1) (n1) (el1) (tc) ∧ G2 0 = aJ cJ 1 o1 ∧ tc = k9 ∧ (k9 = 0 → o1 0 = r) ∧ (k9 = 0 ∨ k9 = 1 ∨ k9 = 2) := by
  obtain ⟨tc, hm, b4⟩ := hm
  rcases hh with ⟨a0, z9, a1, a2, a3, a4, a7, o1, a8, a9⟩ | ⟨a0, a1, a7, o1, a8⟩ | ⟨a0, a1, a7, o1, a8⟩ <;> rcases hm with ⟨b1, b2⟩ | ⟨b1, b0, b2⟩ | ⟨b1, b0, b2, b3⟩
  · exfalso; omega
  · exfalso; omega
  · exact ⟨_, _, _, _, tc, o1, a7.at0 (fun i _ h9 => ho2 i (Or.inl h9)), b4, (ho2 0 (by omega)).trans a8, by omega, fun _ => by rw [a9]; exact bg_tl_u a4 b3, by omega⟩
  · exact ⟨_, _, _, _, tc, o1, a7.at0 (fun i _ h9 => ho2 i (Or.inl h9)), b4, (ho2 0 (by omega)).trans a8, by omega, fun h9 => absurd h9 (by omega), by omega⟩
  · exfalso; omega
  · exfalso; omega
  · exfalso; omega
  · exact ⟨_, _, _, _, tc, o1, a7.at0 (fun i _ h9 => ho2 i (Or.inl h9)), b4, (ho2 0 (by omega)).trans a8, by omega, fun h9 => absurd h9 (by omega), by omega⟩
  · exfalso; omega

set_option maxHeartbeats 1000000 in
theorem la_solution {cI cJ cE cF cR : ClassId} {ad : Nat → Nat} {G1 G2 : Nat → va_E} {V : Nat → Rat} {n : Nat} {wd el k9 r : Int} {y1 y2 y3 : Int} (hh : (k9 = 0 ∧ ∃ z9 : Int, iR z9 ∧ ¬ ((y1 < 0 ∨ (n : Int) ≤ y1) ∨ (y2 < 0 ∨ 2 < y2)) ∧ ¬ (el = 0 ∨ pe_svk (peM (pe V n n)) n (peR (pe V n n)) (n - peR (pe V n n)) = 0) ∧ bg_tl (pe_x (pe V n n) n y1.toNat).num.sign (((pe_x (pe V n n) n y1.toNat).num.natAbs : Nat) : Int) (((pe_x (pe V n n) n y1.toNat).den : Nat) : Int) y2 y3 z9 ∧ pCs cI cJ cE cF cR 488 ad G1 (V) (n) (wd) (el) ∧ ∃ o1 : Nat → Int, G1 0 = aJ cJ 1 o1 ∧ o1 0 = z9) ∨ (k9 = 1 ∧ ((y1 < 0 ∨ (n : Int) ≤ y1) ∨ (y2 < 0 ∨ 2 < y2)) ∧ pCs cI cJ cE cF cR 488 ad G1 (V) (n) (wd) (el) ∧ ∃ o1 : Nat → Int, G1 0 = aJ cJ 1 o1) ∨ (k9 = 2 ∧ (¬ ((y1 < 0 ∨ (n : Int) ≤ y1) ∨ (y2 < 0 ∨ 2 < y2)) ∧ (el = 0 ∨ pe_svk (peM (pe V n n)) n (peR (pe V n n)) (n - peR (pe V n n)) = 0)) ∧ pCs cI cJ cE cF cR 488 ad G1 (V) (n) (wd) (el) ∧ ∃ o1 : Nat → Int, G1 0 = aJ cJ 1 o1)) (hm : ∃ tc : Int, (((((y1 < 0 ∨ (n : Int) ≤ y1) ∨ (y2 < 0 ∨ 2 < y2)) ∧ tc = 1) ∨ (¬ ((y1 < 0 ∨ (n : Int) ≤ y1) ∨ (y2 < 0 ∨ 2 < y2)) ∧ (el = 0 ∨ pe_svk (peM (pe V n n)) n (peR (pe V n n)) (n - peR (pe V n n)) = 0) ∧ tc = 2) ∨ (¬ ((y1 < 0 ∨ (n : Int) ≤ y1) ∨ (y2 < 0 ∨ 2 < y2)) ∧ ¬ (el = 0 ∨ pe_svk (peM (pe V n n)) n (peR (pe V n n)) (n - peR (pe V n n)) = 0) ∧ tc = 0 ∧ bg_tl (pe_x (pe V n n) n y1.toNat).num.sign (((pe_x (pe V n n) n y1.toNat).num.natAbs : Nat) : Int) (((pe_x (pe V n n) n y1.toNat).den : Nat) : Int) y2 y3 r))) ∧ mSt cI cJ ad G2 (V) (n) (el) (tc)) (ho2 : ∀ i9 : Nat, i9 < 480 ∨ 487 < i9 → G2 i9 = G1 i9) : ∃ (V1 : Nat → Rat) (n1 : Nat) (wd1 el1 tc : Int) (o1 : Nat → Int), pCs cI cJ cE cF cR 488 ad G2 (V1) (n1) (wd1) (el1) ∧ mSt cI cJ ad G2 (V1) (n1) (el1) (tc) ∧ G2 0 = aJ cJ 1 o1 ∧ tc = k9 ∧ (k9 = 0 → o1 0 = r) ∧ (k9 = 0 ∨ k9 = 1 ∨ k9 = 2) := by
  obtain ⟨tc, hm, b4⟩ := hm
  rcases hh with ⟨a0, z9, a1, a2, a3, a4, a7, o1, a8, a9⟩ | ⟨a0, a1, a7, o1, a8⟩ | ⟨a0, a1, a7, o1, a8⟩ <;> rcases hm with ⟨b1, b2⟩ | ⟨b1, b0, b2⟩ | ⟨b1, b0, b2, b3⟩
  · exfalso; omega
  · exfalso; omega
  · exact ⟨_, _, _, _, tc, o1, a7.at0 (fun i _ h9 => ho2 i (Or.inl h9)), b4, (ho2 0 (by omega)).trans a8, by omega, fun _ => by rw [a9]; exact bg_tl_u a4 b3, by omega⟩
  · exact ⟨_, _, _, _, tc, o1, a7.at0 (fun i _ h9 => ho2 i (Or.inl h9)), b4, (ho2 0 (by omega)).trans a8, by omega, fun h9 => absurd h9 (by omega), by omega⟩
  · exfalso; omega
  · exfalso; omega
  · exfalso; omega
  · exact ⟨_, _, _, _, tc, o1, a7.at0 (fun i _ h9 => ho2 i (Or.inl h9)), b4, (ho2 0 (by omega)).trans a8, by omega, fun h9 => absurd h9 (by omega), by omega⟩
  · exfalso; omega

set_option maxHeartbeats 1000000 in
theorem la_isRight {cI cJ cE cF cR : ClassId} {ad : Nat → Nat} {G1 G2 : Nat → va_E} {V : Nat → Rat} {n : Nat} {wd el k9 r : Int} {y1 : Int} (hh : (k9 = 0 ∧ ∃ z9 : Int, iR z9 ∧ ¬ (y1 < 0 ∨ (n : Int) ≤ y1) ∧ ¬ (el = 0 ∨ pe_svk (peM (pe V n n)) n (peR (pe V n n)) (n - peR (pe V n n)) = 0) ∧ z9 = (if pe_rs V (pe V n n) n y1.toNat n = V (7 * y1.toNat + n) then 1 else 0) ∧ pCs cI cJ cE cF cR 488 ad G1 (V) (n) (wd) (el) ∧ ∃ o1 : Nat → Int, G1 0 = aJ cJ 1 o1 ∧ o1 0 = z9) ∨ (k9 = 1 ∧ (y1 < 0 ∨ (n : Int) ≤ y1) ∧ pCs cI cJ cE cF cR 488 ad G1 (V) (n) (wd) (el) ∧ ∃ o1 : Nat → Int, G1 0 = aJ cJ 1 o1) ∨ (k9 = 2 ∧ (¬ (y1 < 0 ∨ (n : Int) ≤ y1) ∧ (el = 0 ∨ pe_svk (peM (pe V n n)) n (peR (pe V n n)) (n - peR (pe V n n)) = 0)) ∧ pCs cI cJ cE cF cR 488 ad G1 (V) (n) (wd) (el) ∧ ∃ o1 : Nat → Int, G1 0 = aJ cJ 1 o1)) (hm : ∃ tc : Int, ((((y1 < 0 ∨ (n : Int) ≤ y1) ∧ tc = 1) ∨ (¬ (y1 < 0 ∨ (n : Int) ≤ y1) ∧ (el = 0 ∨ pe_svk (peM (pe V n n)) n (peR (pe V n n)) (n - peR (pe V n n)) = 0) ∧ tc = 2) ∨ (¬ (y1 < 0 ∨ (n : Int) ≤ y1) ∧ ¬ (el = 0 ∨ pe_svk (peM (pe V n n)) n (peR (pe V n n)) (n - peR (pe V n n)) = 0) ∧ tc = 0 ∧ r = if pe_rs V (pe V n n) n y1.toNat n = V (7 * y1.toNat + n) then 1 else 0))) ∧ mSt cI cJ ad G2 (V) (n) (el) (tc)) (ho2 : ∀ i9 : Nat, i9 < 480 ∨ 487 < i9 → G2 i9 = G1 i9) : ∃ (V1 : Nat → Rat) (n1 : Nat) (wd1 el1 tc : Int) (o1 : Nat → Int), pCs cI cJ cE cF cR 488 ad G2 (V1) (n1) (wd1) (el1) ∧ mSt cI cJ ad G2 (V1) (n1) (el1) (tc) ∧ G2 0 = aJ cJ 1 o1 ∧ tc = k9 ∧ (k9 = 0 → o1 0 = r) ∧ (k9 = 0 ∨ k9 = 1 ∨ k9 = 2) := by
  obtain ⟨tc, hm, b4⟩ := hm
  rcases hh with ⟨a0, z9, a1, a2, a3, a4, a7, o1, a8, a9⟩ | ⟨a0, a1, a7, o1, a8⟩ | ⟨a0, a1, a7, o1, a8⟩ <;> rcases hm with ⟨b1, b2⟩ | ⟨b1, b0, b2⟩ | ⟨b1, b0, b2, b3⟩
  · exfalso; omega
  · exfalso; omega
  · exact ⟨_, _, _, _, tc, o1, a7.at0 (fun i _ h9 => ho2 i (Or.inl h9)), b4, (ho2 0 (by omega)).trans a8, by omega, fun _ => by rw [a9, a4, b3], by omega⟩
  · exact ⟨_, _, _, _, tc, o1, a7.at0 (fun i _ h9 => ho2 i (Or.inl h9)), b4, (ho2 0 (by omega)).trans a8, by omega, fun h9 => absurd h9 (by omega), by omega⟩
  · exfalso; omega
  · exfalso; omega
  · exfalso; omega
  · exact ⟨_, _, _, _, tc, o1, a7.at0 (fun i _ h9 => ho2 i (Or.inl h9)), b4, (ho2 0 (by omega)).trans a8, by omega, fun h9 => absurd h9 (by omega), by omega⟩
  · exfalso; omega

set_option maxHeartbeats 1000000 in
theorem la_told {cI cJ cE cF cR : ClassId} {ad : Nat → Nat} {G1 G2 : Nat → va_E} {V : Nat → Rat} {n : Nat} {wd el k9 r : Int} {y1 y4 y2 y3 : Int} (hh : (k9 = 0 ∧ ∃ z9 : Int, iR z9 ∧ ¬ ((y1 < 0 ∨ (n : Int) ≤ y1 ∨ y4 < 0 ∨ (n : Int) < y4) ∨ (y2 < 0 ∨ 2 < y2)) ∧ bg_tl (V (7 * y1.toNat + y4.toNat)).num.sign (((V (7 * y1.toNat + y4.toNat)).num.natAbs : Nat) : Int) (((V (7 * y1.toNat + y4.toNat)).den : Nat) : Int) y2 y3 z9 ∧ pCs cI cJ cE cF cR 488 ad G1 (V) (n) (wd) (el) ∧ ∃ o1 : Nat → Int, G1 0 = aJ cJ 1 o1 ∧ o1 0 = z9) ∨ (k9 = 1 ∧ ((y1 < 0 ∨ (n : Int) ≤ y1 ∨ y4 < 0 ∨ (n : Int) < y4) ∨ (y2 < 0 ∨ 2 < y2)) ∧ pCs cI cJ cE cF cR 488 ad G1 (V) (n) (wd) (el) ∧ ∃ o1 : Nat → Int, G1 0 = aJ cJ 1 o1)) (hm : ∃ tc : Int, (((((y1 < 0 ∨ (n : Int) ≤ y1 ∨ y4 < 0 ∨ (n : Int) < y4) ∨ (y2 < 0 ∨ 2 < y2)) ∧ tc = 1) ∨ (¬ ((y1 < 0 ∨ (n : Int) ≤ y1 ∨ y4 < 0 ∨ (n : Int) < y4) ∨ (y2 < 0 ∨ 2 < y2)) ∧ tc = 0 ∧ bg_tl (V (7 * y1.toNat + y4.toNat)).num.sign (((V (7 * y1.toNat + y4.toNat)).num.natAbs : Nat) : Int) (((V (7 * y1.toNat + y4.toNat)).den : Nat) : Int) y2 y3 r))) ∧ mSt cI cJ ad G2 (V) (n) (el) (tc)) (ho2 : ∀ i9 : Nat, i9 < 480 ∨ 487 < i9 → G2 i9 = G1 i9) : ∃ (V1 : Nat → Rat) (n1 : Nat) (wd1 el1 tc : Int) (o1 : Nat → Int), pCs cI cJ cE cF cR 488 ad G2 (V1) (n1) (wd1) (el1) ∧ mSt cI cJ ad G2 (V1) (n1) (el1) (tc) ∧ G2 0 = aJ cJ 1 o1 ∧ tc = k9 ∧ (k9 = 0 → o1 0 = r) ∧ (k9 = 0 ∨ k9 = 1 ∨ k9 = 2) := by
  obtain ⟨tc, hm, b4⟩ := hm
  rcases hh with ⟨a0, z9, a1, a2, a4, a7, o1, a8, a9⟩ | ⟨a0, a1, a7, o1, a8⟩ <;> rcases hm with ⟨b1, b2⟩ | ⟨b1, b2, b3⟩
  · exfalso; omega
  · exact ⟨_, _, _, _, tc, o1, a7.at0 (fun i _ h9 => ho2 i (Or.inl h9)), b4, (ho2 0 (by omega)).trans a8, by omega, fun _ => by rw [a9]; exact bg_tl_u a4 b3, by omega⟩
  · exact ⟨_, _, _, _, tc, o1, a7.at0 (fun i _ h9 => ho2 i (Or.inl h9)), b4, (ho2 0 (by omega)).trans a8, by omega, fun h9 => absurd h9 (by omega), by omega⟩
  · exfalso; omega

set_option maxHeartbeats 1000000 in
theorem la_eliminate {cI cJ cE cF cR : ClassId} {ad : Nat → Nat} {G1 G2 : Nat → va_E} {V : Nat → Rat} {n : Nat} {wd el k9 r : Int} {y1 : Int} (hh : (k9 = 0 ∧ ∃ z9 : Int, ¬ (y1 < 0 ∨ 40000 < y1) ∧ ((((peH (pe V n n) : Nat) : Int) ≤ y1 ∧ z9 = ((peR (pe V n n) : Nat) : Int) ∧ ∃ wd1 : Int, pCs cI cJ cE cF cR 488 ad G1 (V) (n) (wd1) (1)) ∨ (y1 < ((peH (pe V n n) : Nat) : Int) ∧ z9 = -1 ∧ ∃ wd1 : Int, pCs cI cJ cE cF cR 488 ad G1 (V) (n) (wd1) (0))) ∧ ∃ o1 : Nat → Int, G1 0 = aJ cJ 1 o1 ∧ o1 0 = z9) ∨ (k9 = 1 ∧ (y1 < 0 ∨ 40000 < y1) ∧ pCs cI cJ cE cF cR 488 ad G1 (V) (n) (wd) (el) ∧ ∃ o1 : Nat → Int, G1 0 = aJ cJ 1 o1)) (hm : ((((peH (pe V n n) : Nat) : Int) ≤ y1 ∧ r = ((peR (pe V n n) : Nat) : Int) ∧ mSt cI cJ ad G2 (V) (n) (1) (0)) ∨ (y1 < ((peH (pe V n n) : Nat) : Int) ∧ r = -1 ∧ mSt cI cJ ad G2 (V) (n) (0) (0)))) (ho2 : ∀ i9 : Nat, i9 < 480 ∨ 487 < i9 → G2 i9 = G1 i9) (hcap : ¬ (y1 < 0 ∨ 40000 < y1)) : ∃ (V1 : Nat → Rat) (n1 : Nat) (wd1 el1 tc : Int) (o1 : Nat → Int), pCs cI cJ cE cF cR 488 ad G2 (V1) (n1) (wd1) (el1) ∧ mSt cI cJ ad G2 (V1) (n1) (el1) (tc) ∧ G2 0 = aJ cJ 1 o1 ∧ tc = k9 ∧ (k9 = 0 → o1 0 = r) ∧ (k9 = 0 ∨ k9 = 1 ∨ k9 = 2) := by
  obtain ⟨tc, htc⟩ : ∃ t : Int, t = 0 := ⟨0, rfl⟩
  subst htc
  rcases hh with ⟨a0, z9, a1, a2, o1, a8, a9⟩ | ⟨a0, a1, a7, o1, a8⟩
  · rcases a2 with ⟨a3, a4, wd1, a7⟩ | ⟨a3, a4, wd1, a7⟩ <;> rcases hm with ⟨b1, b2, b3⟩ | ⟨b1, b2, b3⟩
    · exact ⟨_, _, _, _, 0, o1, a7.at0 (fun i _ h9 => ho2 i (Or.inl h9)), b3, (ho2 0 (by omega)).trans a8, by omega, fun _ => by rw [a9, a4, b2], by omega⟩
    · exfalso; omega
    · exfalso; omega
    · exact ⟨_, _, _, _, 0, o1, a7.at0 (fun i _ h9 => ho2 i (Or.inl h9)), b3, (ho2 0 (by omega)).trans a8, by omega, fun _ => by rw [a9, a4, b2], by omega⟩
  · exfalso; omega

theorem la_elim0 {cI cJ cE cF cR : ClassId} {ad : Nat → Nat} {G1 G2 : Nat → va_E} {V : Nat → Rat} {n : Nat} {wd el k9 r : Int} {y1 : Int} (hh : (k9 = 0 ∧ ∃ z9 : Int, ¬ (y1 < 0 ∨ 40000 < y1) ∧ ((((peH (pe V n n) : Nat) : Int) ≤ y1 ∧ z9 = ((peR (pe V n n) : Nat) : Int) ∧ ∃ wd1 : Int, pCs cI cJ cE cF cR 488 ad G1 (V) (n) (wd1) (1)) ∨ (y1 < ((peH (pe V n n) : Nat) : Int) ∧ z9 = -1 ∧ ∃ wd1 : Int, pCs cI cJ cE cF cR 488 ad G1 (V) (n) (wd1) (0))) ∧ ∃ o1 : Nat → Int, G1 0 = aJ cJ 1 o1 ∧ o1 0 = z9) ∨ (k9 = 1 ∧ (y1 < 0 ∨ 40000 < y1) ∧ pCs cI cJ cE cF cR 488 ad G1 (V) (n) (wd) (el) ∧ ∃ o1 : Nat → Int, G1 0 = aJ cJ 1 o1)) (hm : r = 0 ∧ mSt cI cJ ad G2 (V) (n) (el) (1)) (ho2 : ∀ i9 : Nat, i9 < 480 ∨ 487 < i9 → G2 i9 = G1 i9) (hcap : y1 < 0 ∨ 40000 < y1) : ∃ (V1 : Nat → Rat) (n1 : Nat) (wd1 el1 tc : Int) (o1 : Nat → Int), pCs cI cJ cE cF cR 488 ad G2 (V1) (n1) (wd1) (el1) ∧ mSt cI cJ ad G2 (V1) (n1) (el1) (tc) ∧ G2 0 = aJ cJ 1 o1 ∧ tc = k9 ∧ (k9 = 0 → o1 0 = r) ∧ (k9 = 0 ∨ k9 = 1 ∨ k9 = 2) := by
  rcases hh with ⟨a0, z9, a1, _⟩ | ⟨a0, a1, a7, o1, a8⟩
  · exact absurd hcap a1
  · exact ⟨_, _, _, _, 1, o1, a7.at0 (fun i _ h9 => ho2 i (Or.inl h9)), hm.2, (ho2 0 (by omega)).trans a8, by omega, fun h9 => absurd h9 (by omega), by omega⟩
