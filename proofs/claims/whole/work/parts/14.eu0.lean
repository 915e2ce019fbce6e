section ZR3
variable {p : Program} {l : Launch} {e : Env} {R : Room} {s : State} {m : MethodId} {args : Array Value} {below : List Frame} {meth : Method} {c : Code} {H : Heap} {locs : List Loc} {cells slots : Nat} {Q : State → Prop} {cc : ByteArray} {pc : Nat} {ls : Array Slot} {rest : List Value}
theorem zr_labs (hx : p.tables.exec = Jvm.exec) (hb : c.code = cc) (hml : c.maxLocals = ls.size) {own : String} {index : Nat} (hown : s.vm.findClass own = some m.cls) (hlink : (Cond.methodLink own index Lib.MathLoose.abs_long.x).before args s = true) (hstat : (Cond.static Lib.MathLoose.abs_long.x).before args s = true) (hini : (Cond.initialized "java/lang/Math").before args s = true) (hcode : (Cond.code Lib.MathLoose.abs_long.x Lib.MathLoose.abs_long.code 2 (some .long)).before args s = true)
    (hframes : 1 ≤ R.frames) (hlocals : (rest.map fun v => v.category).sum + 13 ≤ R.locals) (hc : cells ≤ R.cells) (hs : slots ≤ R.slots) {x : Int} (rx : lR x) (hd : decode cc pc = .ok (.invokestatic index, 3))
    (kk : W p l e R s m args below meth c H locs cells slots Q (F0 m (pc + 3) ls (.long (lZ (x.natAbs : Int)) :: rest))) : W p l e R s m args below meth c H locs cells slots Q (F0 m pc ls (.long (lZ x) :: rest)) := by
  refine va_mabs_long hx hb hml hown hlink hstat hini hcode hframes hlocals hc hs hd ?_
  have e9 : (if 0 < lZ x then lZ x else -lZ x) = lZ (x.natAbs : Int) := by
    by_cases h : 0 < x
    · rw [if_pos (by rw [show (0 : Int64) = lZ 0 from rfl]; exact (lZ_lt (by decide) rx).mpr h)]
      congr 1; omega
    · rw [if_neg (fun q => h (by rw [show (0 : Int64) = lZ 0 from rfl] at q; exact (lZ_lt (by decide) rx).mp q)), lZ_neg]
      congr 1; omega
  rw [e9]
  exact kk
end ZR3
theorem eu_qv {q x : Int} (hq : 0 ≤ q ∧ q ≤ 2147483647) (hx : -2147483647 ≤ x ∧ x ≤ 2147483647) : -4611686014132420609 ≤ q * x ∧ q * x ≤ 4611686014132420609 := by
  rcases (show 0 ≤ x ∨ x < 0 by omega) with w | w
  · have := bg_mul_dg (x := q) (y := x) ⟨hq.1, by omega⟩ ⟨w, by omega⟩; omega
  · have := bg_mul_dg (x := q) (y := -x) ⟨hq.1, by omega⟩ ⟨by omega, by omega⟩; rw [Int.mul_neg] at this; omega
set_option maxHeartbeats 4000000 in
set_option maxRecDepth 100000 in
/-- Euclid.highBits -/
theorem c_highBits (l : Launch) (D : va_G) (cI cJ cE cF cR : ClassId) (b v r k m sh : Nat) (e : Nat → Int) (v2 : Int) (h2 : bg_ok e k r v2) (hk : k ≤ m + 3) (hsh : sh ≤ 30) (hv : v2 < bg_t (31 * (m + 3) - sh)) (hrb : r < 2147483648) (hm : m < 1000) : Cl l D (zty cI cJ cE cF cR) yX5_highBits wsX5_highBits (zRm 1 21) 0 0 [.ref (b), .int (iZ (((m + 3 : Nat) : Int))), .int (iZ (((sh : Nat) : Int)))] [(b, .inr (9, [.ref (v), .int (iZ (((k : Nat) : Int)))])), (v, aI cI (r) (e))] (fun z w1 => w1 = [(b, .inr (9, [.ref (v), .int (iZ (((k : Nat) : Int)))])), (v, aI cI (r) (e))] ∧ z = v2 / bg_t (31 * (m + 1) - sh)) := by
  unfold Cl
  refine zs (Qc := zQl D _ _) (cc := cX5_highBits) (maxL := 5) (ret := (some .long)) (by decide) rfl (Nat.le_of_ble_eq_true rfl) ?_
  intro zp ze s zm below meth zc ls A args Q hQ hx hb hr hts hown hlk hml hnm hN hA hK hP hD hS hl
  have hl : lv_has ls 5 [(0, .ref (b)), (1, .int (iZ (((m + 3 : Nat) : Int)))), (2, .int (iZ (((sh : Nat) : Int))))] := hl
  have b2 := bg_at_dg h2.2.1 (m + 2)
  have b1 := bg_at_dg h2.2.1 (m + 1)
  have b0 := bg_at_dg h2.2.1 m
  have hz := eu_high h2 hk hsh
  have ht := bg_t_pos (31 - sh)
  have hB : (2147483648 : Int) = bg_t sh * bg_t (31 - sh) := by rw [← bg_t_add, show sh + (31 - sh) = 31 by omega]; decide
  have hlow : 0 ≤ bg_at e k ((m : Nat) : Int) / bg_t (31 - sh) ∧ bg_at e k ((m : Nat) : Int) / bg_t (31 - sh) < 2 ^ sh := ⟨Int.ediv_nonneg b0.1 (Int.le_of_lt ht), Int.ediv_lt_of_lt_mul ht (by show _ < bg_t sh * bg_t (31 - sh); omega)⟩
  have hlow2 : bg_at e k ((m : Nat) : Int) / bg_t (31 - sh) ≤ bg_at e k ((m : Nat) : Int) := Int.ediv_le_self _ b0.1
  have hz2 : (bg_at e k ((m + 2 : Nat) : Int) * 2147483648 + bg_at e k ((m + 1 : Nat) : Int)) * 2 ^ sh + bg_at e k ((m : Nat) : Int) / bg_t (31 - sh) = v2 / bg_t (31 * (m + 1) - sh) := hz
  have hz3 : v2 / bg_t (31 * (m + 1) - sh) < 4611686018427387904 := by
    have q : bg_t (31 * (m + 3) - sh) = 4611686018427387904 * bg_t (31 * (m + 1) - sh) := by
      rw [show (4611686018427387904 : Int) = bg_t 62 by decide, ← bg_t_add]
      congr 1
      omega
    exact Int.ediv_lt_of_lt_mul (bg_t_pos _) (by omega)
  have hz4 : 0 ≤ v2 / bg_t (31 * (m + 1) - sh) := Int.ediv_nonneg (bg_ok_nn h2) (Int.le_of_lt (bg_t_pos _))
  refine lv_aload_n hx hb dX5_highBits_0 rfl (lv_at hl 0 rfl) ?_
  refine lv_iload_n hx hb dX5_highBits_1 rfl (lv_at hl 1 rfl) ?_
  refine lv_iconst (v := iZ 1) hx hb dX5_highBits_2 rfl ?_
  refine zr_isub hx hb dX5_highBits_3 ?_
  refine zr_eqi (((m + 2 : Nat) : Int)) (by omega) ?_
  refine zc_Vi (As := [.int (iZ (((m + 2 : Nat) : Int)))]) (rest := []) (wr := []) ⟨hx, hb, hml, hown, hts⟩ (c_wordAt l D cI cJ cE cF cR b v r k e ((m + 2 : Nat) : Int) ⟨by omega, by omega⟩ h2.1 hrb h2.2.1) (cwV 1 hts gX5_highBits_X9_wordAt rfl rfl rfl (by decide +kernel) ⟨Nat.le_of_ble_eq_true rfl, Nat.le_of_ble_eq_true rfl⟩) hN hK hP hD hS hA [0, 1] [] rfl rfl (by decide) (by decide) (by decide) (q0 := 0) (ci := 9) rfl rfl rfl rfl hl.1 (Nat.le_of_ble_eq_true rfl) dX5_highBits_4 ⟨by decide, by decide⟩ (fun z4 w1 H locs hz4 hp hP hD hS => ?_)
  obtain ⟨hw1, hx0⟩ := hp
  subst hw1
  subst hx0
  have hP := hP.sub (ws' := [(b, .inr (9, [.ref (v), .int (iZ (((k : Nat) : Int)))])), (v, aI cI (r) (e))]) [0, 1] rfl
  have hD := hD.sub (ws' := [(b, .inr (9, [.ref (v), .int (iZ (((k : Nat) : Int)))])), (v, aI cI (r) (e))]) [0, 1] (by decide) rfl
  refine zr_i2l hx hb ⟨by omega, by omega⟩ dX5_highBits_7 ?_
  refine lv_bipush (v := iZ 31) hx hb dX5_highBits_8 (by decide) ?_
  refine zr_lshl31 hx hb dX5_highBits_10 ?_
  refine lv_aload_n hx hb dX5_highBits_11 rfl (lv_at hl 0 rfl) ?_
  refine lv_iload_n hx hb dX5_highBits_12 rfl (lv_at hl 1 rfl) ?_
  refine lv_iconst (v := iZ 2) hx hb dX5_highBits_13 rfl ?_
  refine zr_isub hx hb dX5_highBits_14 ?_
  refine zr_eqi (((m + 1 : Nat) : Int)) (by omega) ?_
  refine zc_Vi (As := [.int (iZ (((m + 1 : Nat) : Int)))]) (rest := [.long (lZ ((bg_at e k ((m + 2 : Nat) : Int)) * 2147483648))]) (wr := []) ⟨hx, hb, hml, hown, hts⟩ (c_wordAt l D cI cJ cE cF cR b v r k e ((m + 1 : Nat) : Int) ⟨by omega, by omega⟩ h2.1 hrb h2.2.1) (cwV 1 hts gX5_highBits_X9_wordAt rfl rfl rfl (by decide +kernel) ⟨Nat.le_of_ble_eq_true rfl, Nat.le_of_ble_eq_true rfl⟩) hN hK hP hD hS hA [0, 1] [] rfl rfl (by decide) (by decide) (by decide) (q0 := 0) (ci := 9) rfl rfl rfl rfl hl.1 (Nat.le_of_ble_eq_true rfl) dX5_highBits_15 ⟨by decide, by decide⟩ (fun z15 w1 H locs hz15 hp hP hD hS => ?_)
  obtain ⟨hw1, hx0⟩ := hp
  subst hw1
  subst hx0
  have hP := hP.sub (ws' := [(b, .inr (9, [.ref (v), .int (iZ (((k : Nat) : Int)))])), (v, aI cI (r) (e))]) [0, 1] rfl
  have hD := hD.sub (ws' := [(b, .inr (9, [.ref (v), .int (iZ (((k : Nat) : Int)))])), (v, aI cI (r) (e))]) [0, 1] (by decide) rfl
  refine zr_i2l hx hb ⟨by omega, by omega⟩ dX5_highBits_18 ?_
  refine zr_lor31 hx hb (by omega) (by omega) dX5_highBits_19 ?_
  refine lv_lstore_n (lv' := [(3, .long (lZ ((bg_at e k ((m + 2 : Nat) : Int)) * 2147483648 + (bg_at e k ((m + 1 : Nat) : Int))))), (0, .ref (b)), (1, .int (iZ (((m + 3 : Nat) : Int)))), (2, .int (iZ (((sh : Nat) : Int))))]) hx hb dX5_highBits_20 rfl hl (by decide) rfl (fun ls hl => ?_)
  refine lv_lload_n hx hb dX5_highBits_21 rfl (lv_at hl 0 rfl) ?_
  refine lv_iload_n hx hb dX5_highBits_22 rfl (lv_at hl 3 rfl) ?_
  refine zr_lshl (k := sh) hx hb (by omega) dX5_highBits_23 ?_
  refine lv_aload_n hx hb dX5_highBits_24 rfl (lv_at hl 1 rfl) ?_
  refine lv_iload_n hx hb dX5_highBits_25 rfl (lv_at hl 2 rfl) ?_
  refine lv_iconst (v := iZ 3) hx hb dX5_highBits_26 rfl ?_
  refine zr_isub hx hb dX5_highBits_27 ?_
  refine zr_eqi (((m : Nat) : Int)) (by omega) ?_
  refine zc_Vi (As := [.int (iZ (((m : Nat) : Int)))]) (rest := [.long (lZ (((bg_at e k ((m + 2 : Nat) : Int)) * 2147483648 + (bg_at e k ((m + 1 : Nat) : Int))) * 2 ^ (sh)))]) (wr := []) ⟨hx, hb, hml, hown, hts⟩ (c_wordAt l D cI cJ cE cF cR b v r k e ((m : Nat) : Int) ⟨by omega, by omega⟩ h2.1 hrb h2.2.1) (cwV 1 hts gX5_highBits_X9_wordAt rfl rfl rfl (by decide +kernel) ⟨Nat.le_of_ble_eq_true rfl, Nat.le_of_ble_eq_true rfl⟩) hN hK hP hD hS hA [0, 1] [] rfl rfl (by decide) (by decide) (by decide) (q0 := 0) (ci := 9) rfl rfl rfl rfl hl.1 (Nat.le_of_ble_eq_true rfl) dX5_highBits_28 ⟨by decide, by decide⟩ (fun z28 w1 H locs hz28 hp hP hD hS => ?_)
  obtain ⟨hw1, hx0⟩ := hp
  subst hw1
  subst hx0
  have hP := hP.sub (ws' := [(b, .inr (9, [.ref (v), .int (iZ (((k : Nat) : Int)))])), (v, aI cI (r) (e))]) [0, 1] rfl
  have hD := hD.sub (ws' := [(b, .inr (9, [.ref (v), .int (iZ (((k : Nat) : Int)))])), (v, aI cI (r) (e))]) [0, 1] (by decide) rfl
  refine lv_bipush (v := iZ 31) hx hb dX5_highBits_31 (by decide) ?_
  refine lv_iload_n hx hb dX5_highBits_33 rfl (lv_at hl 3 rfl) ?_
  refine zr_isub hx hb dX5_highBits_34 ?_
  refine zr_eqi (((31 - sh : Nat) : Int)) (by omega) ?_
  refine zr_iushr (k := 31 - sh) hx hb ⟨by omega, by omega⟩ (by omega) (by omega) dX5_highBits_35 ?_
  refine zr_eqi (bg_at e k ((m : Nat) : Int) / bg_t (31 - sh)) rfl ?_
  refine zr_i2l hx hb ⟨by omega, by omega⟩ dX5_highBits_36 ?_
  refine zr_lor hx hb (sh) (by omega) (by omega) (hlow) dX5_highBits_37 ?_
  exact zr_lret hQ hx hb hr hlk dX5_highBits_38 hK hP hD hS (by omega) (by omega) ⟨by omega, by omega⟩ (⟨rfl, hz⟩)

set_option maxHeartbeats 4000000 in
set_option maxRecDepth 100000 in
/-- Euclid.findSteps -/
theorem c_findSteps (l : Launch) (D : va_G) (cI cJ cE cF cR : ClassId) (eu dv f1 f2 f3 f4 : Nat) (q1 q2 q3 q4 gu gv U V S : Int) (hg : 0 ≤ gv ∧ gv ≤ gu ∧ gu < 4611686018427387904) (hS0 : 0 < S) (hU : gu * S ≤ U ∧ U < (gu + 1) * S) (hV : gv * S ≤ V ∧ V < (gv + 1) * S) (hV0 : 0 ≤ V) (hVU : V ≤ U) : Ci l D (zty cI cJ cE cF cR) yX5_findSteps wsX5_findSteps (zRm 1 40) 0 0 [.ref (eu), .long (lZ (gu)), .long (lZ (gv))] [(eu, .inr (5, [.ref (dv), .ref (f1), .ref (f2), .ref (f3), .ref (f4), .long (lZ (q1)), .long (lZ (q2)), .long (lZ (q3)), .long (lZ (q4))]))] (fun r w1 => ∃ uu uv vu vv : Int, w1 = [(eu, .inr (5, [.ref (dv), .ref (f1), .ref (f2), .ref (f3), .ref (f4), .long (lZ (uu)), .long (lZ (uv)), .long (lZ (vu)), .long (lZ (vv))]))] ∧ ∃ uc vc : Int, eu_I gu gv U V uc vc uu uv vu vv ∧ ((r = 1 ∧ uv ≠ 0) ∨ r = 0)) := by
  unfold Ci
  refine zs (Qc := zQi D _ _) (cc := cX5_findSteps) (maxL := 18) (ret := (some .boolean)) (by decide) rfl (Nat.le_of_ble_eq_true rfl) ?_
  intro zp ze s zm below meth zc ls A args Q hQ hx hb hr hts hown hlk hml hnm hN hA hK hP hD hS hl
  have q_constant_RX5_54_1000000 := hts (.constant RX5 54 (1000000)) (by decide +kernel)
  have q_f_RX5_37_Euclid_uv_J := hts (.fieldLink RX5 37 "LimbSolver$Euclid" "uv" "J") (by decide +kernel)
  have hin5 : ∀ w ∈ wsX50, w ∈ wsX5_findSteps := by decide +kernel
  have q_f_RX5_40_Euclid_vu_J := hts (.fieldLink RX5 40 "LimbSolver$Euclid" "vu" "J") (by decide +kernel)
  have q_f_RX5_43_Euclid_vv_J := hts (.fieldLink RX5 43 "LimbSolver$Euclid" "vv" "J") (by decide +kernel)
  have q_f_RX5_33_Euclid_uu_J := hts (.fieldLink RX5 33 "LimbSolver$Euclid" "uu" "J") (by decide +kernel)
  have q_constantLong_RX5_104_2147483647 := hts (.constantLong RX5 104 (2147483647)) (by decide +kernel)
  have q_methodLink_RX5_106_Lib_MathLoose_abs_long_x := hts (.methodLink RX5 106 Lib.MathLoose.abs_long.x) (by decide +kernel)
  have q_static_Lib_MathLoose_abs_long_x := hts (.static Lib.MathLoose.abs_long.x) (by decide +kernel)
  have q_initialized_java_lang_Math := hts (.initialized "java/lang/Math") (by decide +kernel)
  have q_code_Lib_MathLoose_abs_long_x_Lib_MathLoose_abs_lo := hts (.code Lib.MathLoose.abs_long.x Lib.MathLoose.abs_long.code 2 (some .long)) (by decide +kernel)
  have hl : lv_has ls 18 [(0, .ref (eu)), (1, .long (lZ (gu))), (3, .long (lZ (gv)))] := hl
  have lp : ∀ (t : Nat) (i : Nat) (uc : Int) (vc : Int) (uu : Int) (uv : Int) (vu : Int) (vv : Int) (H : Heap) (locs : List Loc) (ls : Array Slot), (i + t = 1000000) → (eu_I gu gv U V uc vc uu uv vu vv) →  va_P D vwCl [(eu, .inr (5, [.ref (dv), .ref (f1), .ref (f2), .ref (f3), .ref (f4), .long (lZ (uu)), .long (lZ (uv)), .long (lZ (vu)), .long (lZ (vv))]))] H → va_D A [(eu, .inr (5, [.ref (dv), .ref (f1), .ref (f2), .ref (f3), .ref (f4), .long (lZ (uu)), .long (lZ (uv)), .long (lZ (vu)), .long (lZ (vv))]))] → va_S A s.heap H locs → lv_has ls 18 [(9, .int (iZ (((i : Nat) : Int)))), (7, .long (lZ (vc))), (5, .long (lZ (uc))), (0, .ref (eu)), (1, .long (lZ (gu))), (3, .long (lZ (gv)))] → W zp l ze (zRm 1 40) s zm args below meth zc H locs 0 0 Q (F0 zm 29 ls []) := by
    intro t
    induction t with
    | zero =>
      intro i uc vc uu uv vu vv H locs ls hit hI hP hD hS hl
      obtain ⟨hI1, hI2, hsg, ⟨m1, m2, m3, m4⟩, hI5, hI6, hI7, hI8, hI9⟩ := id hI
      refine lv_iload hx hb dX5_findSteps_29 (lv_at hl 0 rfl) ?_
      refine zr_ldc hx hb 1000000 (by decide) hown q_constant_RX5_54_1000000 dX5_findSteps_31 ?_
      refine zr_icmp_ge hx hb 217 ⟨by omega, by omega⟩ ⟨by omega, by omega⟩ dX5_findSteps_33 (by decide) (fun h_33 => ?_) (fun h_33 => ?_)
      · refine lv_aload_n hx hb dX5_findSteps_217 rfl (lv_at hl 3 rfl) ?_
        refine va_get (D := D) (ci := 5) (v := .long (lZ (uv))) (C := RX5) (T := TX5) (N := 9) hx hb hts hin5 hown hK hP 0 rfl rfl 6 (by decide) q_f_RX5_37_Euclid_uv_J (fun _ h9 => h9) rfl dX5_findSteps_218 ?_
        refine lv_lconst (v := lZ 0) hx hb dX5_findSteps_221 rfl ?_
        refine zr_lcmp_eq hx hb 230 ⟨by omega, by omega⟩ ⟨by omega, by omega⟩ dX5_findSteps_222 dX5_findSteps_223 (by decide) (fun h_222 => ?_) (fun h_222 => ?_)
        · refine lv_iconst (v := iZ 0) hx hb dX5_findSteps_230 rfl ?_
          exact zr_zret hQ hx hb hr hlk dX5_findSteps_231 hK hP hD hS (by omega) (by omega) (by omega) (⟨uu, uv, vu, vv, rfl, uc, vc, hI, Or.inr rfl⟩)
        · refine lv_iconst (v := iZ 1) hx hb dX5_findSteps_226 rfl ?_
          refine lv_goto (tgt := 231) hx hb dX5_findSteps_227 (by decide) ?_
          exact zr_zret hQ hx hb hr hlk dX5_findSteps_231 hK hP hD hS (by omega) (by omega) (by omega) (⟨uu, uv, vu, vv, rfl, uc, vc, hI, Or.inl ⟨rfl, by omega⟩⟩)
      · exfalso; omega
    | succ t ih =>
      intro i uc vc uu uv vu vv H locs ls hit hI hP hD hS hl
      obtain ⟨hI1, hI2, hsg, ⟨m1, m2, m3, m4⟩, hI5, hI6, hI7, hI8, hI9⟩ := id hI
      refine lv_iload hx hb dX5_findSteps_29 (lv_at hl 0 rfl) ?_
      refine zr_ldc hx hb 1000000 (by decide) hown q_constant_RX5_54_1000000 dX5_findSteps_31 ?_
      refine zr_icmp_ge hx hb 217 ⟨by omega, by omega⟩ ⟨by omega, by omega⟩ dX5_findSteps_33 (by decide) (fun h_33 => ?_) (fun h_33 => ?_)
      · exfalso; omega
      · refine lv_lload hx hb dX5_findSteps_36 (lv_at hl 1 rfl) ?_
        refine lv_aload_n hx hb dX5_findSteps_38 rfl (lv_at hl 3 rfl) ?_
        refine va_get (D := D) (ci := 5) (v := .long (lZ (vu))) (C := RX5) (T := TX5) (N := 9) hx hb hts hin5 hown hK hP 0 rfl rfl 7 (by decide) q_f_RX5_40_Euclid_vu_J (fun _ h9 => h9) rfl dX5_findSteps_39 ?_
        refine zr_ladd hx hb dX5_findSteps_42 ?_
        refine lv_lconst (v := lZ 0) hx hb dX5_findSteps_43 rfl ?_
        refine zr_lcmp_le hx hb 217 ⟨by omega, by omega⟩ ⟨by omega, by omega⟩ dX5_findSteps_44 dX5_findSteps_45 (by decide) (fun h_44 => ?_) (fun h_44 => ?_)
        · refine lv_aload_n hx hb dX5_findSteps_217 rfl (lv_at hl 3 rfl) ?_
          refine va_get (D := D) (ci := 5) (v := .long (lZ (uv))) (C := RX5) (T := TX5) (N := 9) hx hb hts hin5 hown hK hP 0 rfl rfl 6 (by decide) q_f_RX5_37_Euclid_uv_J (fun _ h9 => h9) rfl dX5_findSteps_218 ?_
          refine lv_lconst (v := lZ 0) hx hb dX5_findSteps_221 rfl ?_
          refine zr_lcmp_eq hx hb 230 ⟨by omega, by omega⟩ ⟨by omega, by omega⟩ dX5_findSteps_222 dX5_findSteps_223 (by decide) (fun h_222 => ?_) (fun h_222 => ?_)
          · refine lv_iconst (v := iZ 0) hx hb dX5_findSteps_230 rfl ?_
            exact zr_zret hQ hx hb hr hlk dX5_findSteps_231 hK hP hD hS (by omega) (by omega) (by omega) (⟨uu, uv, vu, vv, rfl, uc, vc, hI, Or.inr rfl⟩)
          · refine lv_iconst (v := iZ 1) hx hb dX5_findSteps_226 rfl ?_
            refine lv_goto (tgt := 231) hx hb dX5_findSteps_227 (by decide) ?_
            exact zr_zret hQ hx hb hr hlk dX5_findSteps_231 hK hP hD hS (by omega) (by omega) (by omega) (⟨uu, uv, vu, vv, rfl, uc, vc, hI, Or.inl ⟨rfl, by omega⟩⟩)
        · refine lv_lload hx hb dX5_findSteps_48 (lv_at hl 1 rfl) ?_
          refine lv_aload_n hx hb dX5_findSteps_50 rfl (lv_at hl 3 rfl) ?_
          refine va_get (D := D) (ci := 5) (v := .long (lZ (vv))) (C := RX5) (T := TX5) (N := 9) hx hb hts hin5 hown hK hP 0 rfl rfl 8 (by decide) q_f_RX5_43_Euclid_vv_J (fun _ h9 => h9) rfl dX5_findSteps_51 ?_
          refine zr_ladd hx hb dX5_findSteps_54 ?_
          refine lv_lconst (v := lZ 0) hx hb dX5_findSteps_55 rfl ?_
          refine zr_lcmp_le hx hb 217 ⟨by omega, by omega⟩ ⟨by omega, by omega⟩ dX5_findSteps_56 dX5_findSteps_57 (by decide) (fun h_56 => ?_) (fun h_56 => ?_)
          · refine lv_aload_n hx hb dX5_findSteps_217 rfl (lv_at hl 3 rfl) ?_
            refine va_get (D := D) (ci := 5) (v := .long (lZ (uv))) (C := RX5) (T := TX5) (N := 9) hx hb hts hin5 hown hK hP 0 rfl rfl 6 (by decide) q_f_RX5_37_Euclid_uv_J (fun _ h9 => h9) rfl dX5_findSteps_218 ?_
            refine lv_lconst (v := lZ 0) hx hb dX5_findSteps_221 rfl ?_
            refine zr_lcmp_eq hx hb 230 ⟨by omega, by omega⟩ ⟨by omega, by omega⟩ dX5_findSteps_222 dX5_findSteps_223 (by decide) (fun h_222 => ?_) (fun h_222 => ?_)
            · refine lv_iconst (v := iZ 0) hx hb dX5_findSteps_230 rfl ?_
              exact zr_zret hQ hx hb hr hlk dX5_findSteps_231 hK hP hD hS (by omega) (by omega) (by omega) (⟨uu, uv, vu, vv, rfl, uc, vc, hI, Or.inr rfl⟩)
            · refine lv_iconst (v := iZ 1) hx hb dX5_findSteps_226 rfl ?_
              refine lv_goto (tgt := 231) hx hb dX5_findSteps_227 (by decide) ?_
              exact zr_zret hQ hx hb hr hlk dX5_findSteps_231 hK hP hD hS (by omega) (by omega) (by omega) (⟨uu, uv, vu, vv, rfl, uc, vc, hI, Or.inl ⟨rfl, by omega⟩⟩)
          · refine lv_lload hx hb dX5_findSteps_60 (lv_at hl 2 rfl) ?_
            refine lv_aload_n hx hb dX5_findSteps_62 rfl (lv_at hl 3 rfl) ?_
            refine va_get (D := D) (ci := 5) (v := .long (lZ (uu))) (C := RX5) (T := TX5) (N := 9) hx hb hts hin5 hown hK hP 0 rfl rfl 5 (by decide) q_f_RX5_33_Euclid_uu_J (fun _ h9 => h9) rfl dX5_findSteps_63 ?_
            refine zr_ladd hx hb dX5_findSteps_66 ?_
            refine lv_lload hx hb dX5_findSteps_67 (lv_at hl 1 rfl) ?_
            refine lv_aload_n hx hb dX5_findSteps_69 rfl (lv_at hl 3 rfl) ?_
            refine va_get (D := D) (ci := 5) (v := .long (lZ (vu))) (C := RX5) (T := TX5) (N := 9) hx hb hts hin5 hown hK hP 0 rfl rfl 7 (by decide) q_f_RX5_40_Euclid_vu_J (fun _ h9 => h9) rfl dX5_findSteps_70 ?_
            refine zr_ladd hx hb dX5_findSteps_73 ?_
            refine zr_ldiv hx hb ⟨by omega, by omega⟩ ⟨by omega, by omega⟩ (by omega) (by omega) dX5_findSteps_74 ?_
            refine zr_topl (fun qq hqq => ?_)
            have hqd := Int.ediv_le_self (vc + vu) hI6.1
            have hqn : 0 ≤ (uc + uu) / (vc + vu) := Int.ediv_nonneg hI6.1 (by omega)
            refine lv_lstore (lv' := [(10, .long (lZ (qq))), (9, .int (iZ (((i : Nat) : Int)))), (7, .long (lZ (vc))), (5, .long (lZ (uc))), (0, .ref (eu)), (1, .long (lZ (gu))), (3, .long (lZ (gv)))]) hx hb dX5_findSteps_75 hl (by decide) rfl (fun ls hl => ?_)
            refine lv_lload hx hb dX5_findSteps_77 (lv_at hl 0 rfl) ?_
            refine lv_lload hx hb dX5_findSteps_79 (lv_at hl 3 rfl) ?_
            refine lv_aload_n hx hb dX5_findSteps_81 rfl (lv_at hl 4 rfl) ?_
            refine va_get (D := D) (ci := 5) (v := .long (lZ (uv))) (C := RX5) (T := TX5) (N := 9) hx hb hts hin5 hown hK hP 0 rfl rfl 6 (by decide) q_f_RX5_37_Euclid_uv_J (fun _ h9 => h9) rfl dX5_findSteps_82 ?_
            refine zr_ladd hx hb dX5_findSteps_85 ?_
            refine lv_lload hx hb dX5_findSteps_86 (lv_at hl 2 rfl) ?_
            refine lv_aload_n hx hb dX5_findSteps_88 rfl (lv_at hl 4 rfl) ?_
            refine va_get (D := D) (ci := 5) (v := .long (lZ (vv))) (C := RX5) (T := TX5) (N := 9) hx hb hts hin5 hown hK hP 0 rfl rfl 8 (by decide) q_f_RX5_43_Euclid_vv_J (fun _ h9 => h9) rfl dX5_findSteps_89 ?_
            refine zr_ladd hx hb dX5_findSteps_92 ?_
            refine zr_ldiv hx hb ⟨by omega, by omega⟩ ⟨by omega, by omega⟩ (by omega) (by omega) dX5_findSteps_93 ?_
            have hqd2 := Int.ediv_le_self (vc + vv) hI6.2
            have hqn2 : 0 ≤ (uc + uv) / (vc + vv) := Int.ediv_nonneg hI6.2 (by omega)
            refine zr_lcmp_ne hx hb 217 ⟨by omega, by omega⟩ ⟨by omega, by omega⟩ dX5_findSteps_94 dX5_findSteps_95 (by decide) (fun h_94 => ?_) (fun h_94 => ?_)
            · refine lv_aload_n hx hb dX5_findSteps_217 rfl (lv_at hl 4 rfl) ?_
              refine va_get (D := D) (ci := 5) (v := .long (lZ (uv))) (C := RX5) (T := TX5) (N := 9) hx hb hts hin5 hown hK hP 0 rfl rfl 6 (by decide) q_f_RX5_37_Euclid_uv_J (fun _ h9 => h9) rfl dX5_findSteps_218 ?_
              refine lv_lconst (v := lZ 0) hx hb dX5_findSteps_221 rfl ?_
              refine zr_lcmp_eq hx hb 230 ⟨by omega, by omega⟩ ⟨by omega, by omega⟩ dX5_findSteps_222 dX5_findSteps_223 (by decide) (fun h_222 => ?_) (fun h_222 => ?_)
              · refine lv_iconst (v := iZ 0) hx hb dX5_findSteps_230 rfl ?_
                exact zr_zret hQ hx hb hr hlk dX5_findSteps_231 hK hP hD hS (by omega) (by omega) (by omega) (⟨uu, uv, vu, vv, rfl, uc, vc, hI, Or.inr rfl⟩)
              · refine lv_iconst (v := iZ 1) hx hb dX5_findSteps_226 rfl ?_
                refine lv_goto (tgt := 231) hx hb dX5_findSteps_227 (by decide) ?_
                exact zr_zret hQ hx hb hr hlk dX5_findSteps_231 hK hP hD hS (by omega) (by omega) (by omega) (⟨uu, uv, vu, vv, rfl, uc, vc, hI, Or.inl ⟨rfl, by omega⟩⟩)
            · refine lv_lload hx hb dX5_findSteps_98 (lv_at hl 0 rfl) ?_
              refine zr_ldc2 hx hb 2147483647 (by decide) hown q_constantLong_RX5_104_2147483647 dX5_findSteps_100 ?_
              refine zr_lcmp_le hx hb 110 ⟨by omega, by omega⟩ ⟨by omega, by omega⟩ dX5_findSteps_103 dX5_findSteps_104 (by decide) (fun h_103 => ?_) (fun h_103 => ?_)
              · have hq0 : 0 ≤ qq := by rw [hqq]; exact Int.ediv_nonneg hI6.1 (by omega)
                have w1 := eu_qv ⟨hq0, by omega⟩ m3
                have w2 := eu_qv ⟨hq0, by omega⟩ m4
                refine lv_aload_n hx hb dX5_findSteps_110 rfl (lv_at hl 4 rfl) ?_
                refine va_get (D := D) (ci := 5) (v := .long (lZ (uu))) (C := RX5) (T := TX5) (N := 9) hx hb hts hin5 hown hK hP 0 rfl rfl 5 (by decide) q_f_RX5_33_Euclid_uu_J (fun _ h9 => h9) rfl dX5_findSteps_111 ?_
                refine lv_lload hx hb dX5_findSteps_114 (lv_at hl 0 rfl) ?_
                refine lv_aload_n hx hb dX5_findSteps_116 rfl (lv_at hl 4 rfl) ?_
                refine va_get (D := D) (ci := 5) (v := .long (lZ (vu))) (C := RX5) (T := TX5) (N := 9) hx hb hts hin5 hown hK hP 0 rfl rfl 7 (by decide) q_f_RX5_40_Euclid_vu_J (fun _ h9 => h9) rfl dX5_findSteps_117 ?_
                refine zr_lmul hx hb dX5_findSteps_120 ?_
                refine zr_lsub hx hb dX5_findSteps_121 ?_
                refine lv_lstore (lv' := [(12, .long (lZ ((uu) - ((qq) * (vu))))), (10, .long (lZ (qq))), (9, .int (iZ (((i : Nat) : Int)))), (7, .long (lZ (vc))), (5, .long (lZ (uc))), (0, .ref (eu)), (1, .long (lZ (gu))), (3, .long (lZ (gv)))]) hx hb dX5_findSteps_122 hl (by decide) rfl (fun ls hl => ?_)
                refine lv_aload_n hx hb dX5_findSteps_124 rfl (lv_at hl 5 rfl) ?_
                refine va_get (D := D) (ci := 5) (v := .long (lZ (uv))) (C := RX5) (T := TX5) (N := 9) hx hb hts hin5 hown hK hP 0 rfl rfl 6 (by decide) q_f_RX5_37_Euclid_uv_J (fun _ h9 => h9) rfl dX5_findSteps_125 ?_
                refine lv_lload hx hb dX5_findSteps_128 (lv_at hl 1 rfl) ?_
                refine lv_aload_n hx hb dX5_findSteps_130 rfl (lv_at hl 5 rfl) ?_
                refine va_get (D := D) (ci := 5) (v := .long (lZ (vv))) (C := RX5) (T := TX5) (N := 9) hx hb hts hin5 hown hK hP 0 rfl rfl 8 (by decide) q_f_RX5_43_Euclid_vv_J (fun _ h9 => h9) rfl dX5_findSteps_131 ?_
                refine zr_lmul hx hb dX5_findSteps_134 ?_
                refine zr_lsub hx hb dX5_findSteps_135 ?_
                refine lv_lstore (lv' := [(14, .long (lZ ((uv) - ((qq) * (vv))))), (12, .long (lZ ((uu) - ((qq) * (vu))))), (10, .long (lZ (qq))), (9, .int (iZ (((i : Nat) : Int)))), (7, .long (lZ (vc))), (5, .long (lZ (uc))), (0, .ref (eu)), (1, .long (lZ (gu))), (3, .long (lZ (gv)))]) hx hb dX5_findSteps_136 hl (by decide) rfl (fun ls hl => ?_)
                refine lv_lload hx hb dX5_findSteps_138 (lv_at hl 1 rfl) ?_
                refine zr_labs hx hb (hml.trans hl.1.symm) hown q_methodLink_RX5_106_Lib_MathLoose_abs_long_x q_static_Lib_MathLoose_abs_long_x q_initialized_java_lang_Math q_code_Lib_MathLoose_abs_long_x_Lib_MathLoose_abs_lo (Nat.le_of_ble_eq_true rfl) (Nat.le_of_ble_eq_true rfl) (Nat.zero_le _) (Nat.zero_le _) ⟨by omega, by omega⟩ dX5_findSteps_140 ?_
                refine zr_ldc2 hx hb 2147483647 (by decide) hown q_constantLong_RX5_104_2147483647 dX5_findSteps_143 ?_
                refine zr_lcmp_gt hx hb 217 ⟨by omega, by omega⟩ ⟨by omega, by omega⟩ dX5_findSteps_146 dX5_findSteps_147 (by decide) (fun h_146 => ?_) (fun h_146 => ?_)
                · refine lv_aload_n hx hb dX5_findSteps_217 rfl (lv_at hl 6 rfl) ?_
                  refine va_get (D := D) (ci := 5) (v := .long (lZ (uv))) (C := RX5) (T := TX5) (N := 9) hx hb hts hin5 hown hK hP 0 rfl rfl 6 (by decide) q_f_RX5_37_Euclid_uv_J (fun _ h9 => h9) rfl dX5_findSteps_218 ?_
                  refine lv_lconst (v := lZ 0) hx hb dX5_findSteps_221 rfl ?_
                  refine zr_lcmp_eq hx hb 230 ⟨by omega, by omega⟩ ⟨by omega, by omega⟩ dX5_findSteps_222 dX5_findSteps_223 (by decide) (fun h_222 => ?_) (fun h_222 => ?_)
                  · refine lv_iconst (v := iZ 0) hx hb dX5_findSteps_230 rfl ?_
                    exact zr_zret hQ hx hb hr hlk dX5_findSteps_231 hK hP hD hS (by omega) (by omega) (by omega) (⟨uu, uv, vu, vv, rfl, uc, vc, hI, Or.inr rfl⟩)
                  · refine lv_iconst (v := iZ 1) hx hb dX5_findSteps_226 rfl ?_
                    refine lv_goto (tgt := 231) hx hb dX5_findSteps_227 (by decide) ?_
                    exact zr_zret hQ hx hb hr hlk dX5_findSteps_231 hK hP hD hS (by omega) (by omega) (by omega) (⟨uu, uv, vu, vv, rfl, uc, vc, hI, Or.inl ⟨rfl, by omega⟩⟩)
                · refine lv_lload hx hb dX5_findSteps_150 (lv_at hl 0 rfl) ?_
                  refine zr_labs hx hb (hml.trans hl.1.symm) hown q_methodLink_RX5_106_Lib_MathLoose_abs_long_x q_static_Lib_MathLoose_abs_long_x q_initialized_java_lang_Math q_code_Lib_MathLoose_abs_long_x_Lib_MathLoose_abs_lo (Nat.le_of_ble_eq_true rfl) (Nat.le_of_ble_eq_true rfl) (Nat.zero_le _) (Nat.zero_le _) ⟨by omega, by omega⟩ dX5_findSteps_152 ?_
                  refine zr_ldc2 hx hb 2147483647 (by decide) hown q_constantLong_RX5_104_2147483647 dX5_findSteps_155 ?_
                  refine zr_lcmp_le hx hb 165 ⟨by omega, by omega⟩ ⟨by omega, by omega⟩ dX5_findSteps_158 dX5_findSteps_159 (by decide) (fun h_158 => ?_) (fun h_158 => ?_)
                  · have hst := eu_step hS0 hU hV hV0 hI h_44 h_56 hqq h_94 ⟨by omega, by omega⟩ ⟨by omega, by omega⟩
                    obtain ⟨hJ1, hJ2, hsg2, hsm2, hJ5, hJ6, hJ7, hJ8, hJ9⟩ := id hst
                    refine lv_aload_n hx hb dX5_findSteps_165 rfl (lv_at hl 6 rfl) ?_
                    refine lv_aload_n hx hb dX5_findSteps_166 rfl (lv_at hl 6 rfl) ?_
                    refine va_get (D := D) (ci := 5) (v := .long (lZ (vu))) (C := RX5) (T := TX5) (N := 9) hx hb hts hin5 hown hK hP 0 rfl rfl 7 (by decide) q_f_RX5_40_Euclid_vu_J (fun _ h9 => h9) rfl dX5_findSteps_167 ?_
                    refine va_put (D := D) (ci := 5) (v := .long (lZ (vu))) (ty := tyX5 5) (C := RX5) (T := TX5) (N := 9) hx hb hts hin5 tyX5 tyX5_ok nmX5 hown hK hP hD hS 0 rfl rfl 5 (by decide) q_f_RX5_33_Euclid_uu_J (fun _ h9 => h9) rfl (tyX5_ok 5 (by decide)) rfl rfl (Nat.le_of_ble_eq_true rfl) dX5_findSteps_170 (fun H locs hP hD hS => ?_)
                    have hP : va_P D vwCl [(eu, .inr (5, [.ref (dv), .ref (f1), .ref (f2), .ref (f3), .ref (f4), .long (lZ (vu)), .long (lZ (uv)), .long (lZ (vu)), .long (lZ (vv))]))] H := hP
                    have hD : va_D A [(eu, .inr (5, [.ref (dv), .ref (f1), .ref (f2), .ref (f3), .ref (f4), .long (lZ (vu)), .long (lZ (uv)), .long (lZ (vu)), .long (lZ (vv))]))] := hD
                    refine lv_aload_n hx hb dX5_findSteps_173 rfl (lv_at hl 6 rfl) ?_
                    refine lv_aload_n hx hb dX5_findSteps_174 rfl (lv_at hl 6 rfl) ?_
                    refine va_get (D := D) (ci := 5) (v := .long (lZ (vv))) (C := RX5) (T := TX5) (N := 9) hx hb hts hin5 hown hK hP 0 rfl rfl 8 (by decide) q_f_RX5_43_Euclid_vv_J (fun _ h9 => h9) rfl dX5_findSteps_175 ?_
                    refine va_put (D := D) (ci := 5) (v := .long (lZ (vv))) (ty := tyX5 6) (C := RX5) (T := TX5) (N := 9) hx hb hts hin5 tyX5 tyX5_ok nmX5 hown hK hP hD hS 0 rfl rfl 6 (by decide) q_f_RX5_37_Euclid_uv_J (fun _ h9 => h9) rfl (tyX5_ok 6 (by decide)) rfl rfl (Nat.le_of_ble_eq_true rfl) dX5_findSteps_178 (fun H locs hP hD hS => ?_)
                    have hP : va_P D vwCl [(eu, .inr (5, [.ref (dv), .ref (f1), .ref (f2), .ref (f3), .ref (f4), .long (lZ (vu)), .long (lZ (vv)), .long (lZ (vu)), .long (lZ (vv))]))] H := hP
                    have hD : va_D A [(eu, .inr (5, [.ref (dv), .ref (f1), .ref (f2), .ref (f3), .ref (f4), .long (lZ (vu)), .long (lZ (vv)), .long (lZ (vu)), .long (lZ (vv))]))] := hD
                    refine lv_aload_n hx hb dX5_findSteps_181 rfl (lv_at hl 6 rfl) ?_
                    refine lv_lload hx hb dX5_findSteps_182 (lv_at hl 1 rfl) ?_
                    refine va_put (D := D) (ci := 5) (v := .long (lZ ((uu) - ((qq) * (vu))))) (ty := tyX5 7) (C := RX5) (T := TX5) (N := 9) hx hb hts hin5 tyX5 tyX5_ok nmX5 hown hK hP hD hS 0 rfl rfl 7 (by decide) q_f_RX5_40_Euclid_vu_J (fun _ h9 => h9) rfl (tyX5_ok 7 (by decide)) rfl rfl (Nat.le_of_ble_eq_true rfl) dX5_findSteps_184 (fun H locs hP hD hS => ?_)
                    have hP : va_P D vwCl [(eu, .inr (5, [.ref (dv), .ref (f1), .ref (f2), .ref (f3), .ref (f4), .long (lZ (vu)), .long (lZ (vv)), .long (lZ ((uu) - ((qq) * (vu)))), .long (lZ (vv))]))] H := hP
                    have hD : va_D A [(eu, .inr (5, [.ref (dv), .ref (f1), .ref (f2), .ref (f3), .ref (f4), .long (lZ (vu)), .long (lZ (vv)), .long (lZ ((uu) - ((qq) * (vu)))), .long (lZ (vv))]))] := hD
                    refine lv_aload_n hx hb dX5_findSteps_187 rfl (lv_at hl 6 rfl) ?_
                    refine lv_lload hx hb dX5_findSteps_188 (lv_at hl 0 rfl) ?_
                    refine va_put (D := D) (ci := 5) (v := .long (lZ ((uv) - ((qq) * (vv))))) (ty := tyX5 8) (C := RX5) (T := TX5) (N := 9) hx hb hts hin5 tyX5 tyX5_ok nmX5 hown hK hP hD hS 0 rfl rfl 8 (by decide) q_f_RX5_43_Euclid_vv_J (fun _ h9 => h9) rfl (tyX5_ok 8 (by decide)) rfl rfl (Nat.le_of_ble_eq_true rfl) dX5_findSteps_190 (fun H locs hP hD hS => ?_)
                    have hP : va_P D vwCl [(eu, .inr (5, [.ref (dv), .ref (f1), .ref (f2), .ref (f3), .ref (f4), .long (lZ (vu)), .long (lZ (vv)), .long (lZ ((uu) - ((qq) * (vu)))), .long (lZ ((uv) - ((qq) * (vv))))]))] H := hP
                    have hD : va_D A [(eu, .inr (5, [.ref (dv), .ref (f1), .ref (f2), .ref (f3), .ref (f4), .long (lZ (vu)), .long (lZ (vv)), .long (lZ ((uu) - ((qq) * (vu)))), .long (lZ ((uv) - ((qq) * (vv))))]))] := hD
                    refine lv_lload hx hb dX5_findSteps_193 (lv_at hl 5 rfl) ?_
                    refine lv_lload hx hb dX5_findSteps_195 (lv_at hl 2 rfl) ?_
                    refine lv_lload hx hb dX5_findSteps_197 (lv_at hl 4 rfl) ?_
                    refine zr_lmul hx hb dX5_findSteps_199 ?_
                    refine zr_lsub hx hb dX5_findSteps_200 ?_
                    refine lv_lstore (lv' := [(16, .long (lZ ((uc) - ((qq) * (vc))))), (14, .long (lZ ((uv) - ((qq) * (vv))))), (12, .long (lZ ((uu) - ((qq) * (vu))))), (10, .long (lZ (qq))), (9, .int (iZ (((i : Nat) : Int)))), (7, .long (lZ (vc))), (5, .long (lZ (uc))), (0, .ref (eu)), (1, .long (lZ (gu))), (3, .long (lZ (gv)))]) hx hb dX5_findSteps_201 hl (by decide) rfl (fun ls hl => ?_)
                    refine lv_lload hx hb dX5_findSteps_203 (lv_at hl 5 rfl) ?_
                    refine lv_lstore (lv' := [(5, .long (lZ (vc))), (16, .long (lZ ((uc) - ((qq) * (vc))))), (14, .long (lZ ((uv) - ((qq) * (vv))))), (12, .long (lZ ((uu) - ((qq) * (vu))))), (10, .long (lZ (qq))), (9, .int (iZ (((i : Nat) : Int)))), (7, .long (lZ (vc))), (0, .ref (eu)), (1, .long (lZ (gu))), (3, .long (lZ (gv)))]) hx hb dX5_findSteps_205 hl (by decide) rfl (fun ls hl => ?_)
                    refine lv_lload hx hb dX5_findSteps_207 (lv_at hl 1 rfl) ?_
                    refine lv_lstore (lv' := [(7, .long (lZ ((uc) - ((qq) * (vc))))), (5, .long (lZ (vc))), (16, .long (lZ ((uc) - ((qq) * (vc))))), (14, .long (lZ ((uv) - ((qq) * (vv))))), (12, .long (lZ ((uu) - ((qq) * (vu))))), (10, .long (lZ (qq))), (9, .int (iZ (((i : Nat) : Int)))), (0, .ref (eu)), (1, .long (lZ (gu))), (3, .long (lZ (gv)))]) hx hb dX5_findSteps_209 hl (by decide) rfl (fun ls hl => ?_)
                    refine lv_iinc (v := iZ (((i + 1 : Nat) : Int))) (lv' := [(9, .int (iZ (((i + 1 : Nat) : Int)))), (7, .long (lZ ((uc) - ((qq) * (vc))))), (5, .long (lZ (vc))), (16, .long (lZ ((uc) - ((qq) * (vc))))), (14, .long (lZ ((uv) - ((qq) * (vv))))), (12, .long (lZ ((uu) - ((qq) * (vu))))), (10, .long (lZ (qq))), (0, .ref (eu)), (1, .long (lZ (gu))), (3, .long (lZ (gv)))]) hx hb dX5_findSteps_211 hl (k := 6) rfl (by rw [show ((i + 1 : Nat) : Int) = ((i : Nat) : Int) + 1 by omega]; exact iZ_add _ _) (by decide) rfl (fun ls hl => ?_)
                    refine lv_goto (tgt := 29) hx hb dX5_findSteps_214 (by decide) ?_
                    exact ih (i + 1) vc (uc - qq * vc) vu vv (uu - qq * vu) (uv - qq * vv) H locs ls (by omega) hst hP hD hS (lv_sub hl [0, 1, 2, 7, 8, 9] rfl)
                  · refine lv_goto (tgt := 217) hx hb dX5_findSteps_162 (by decide) ?_
                    refine lv_aload_n hx hb dX5_findSteps_217 rfl (lv_at hl 6 rfl) ?_
                    refine va_get (D := D) (ci := 5) (v := .long (lZ (uv))) (C := RX5) (T := TX5) (N := 9) hx hb hts hin5 hown hK hP 0 rfl rfl 6 (by decide) q_f_RX5_37_Euclid_uv_J (fun _ h9 => h9) rfl dX5_findSteps_218 ?_
                    refine lv_lconst (v := lZ 0) hx hb dX5_findSteps_221 rfl ?_
                    refine zr_lcmp_eq hx hb 230 ⟨by omega, by omega⟩ ⟨by omega, by omega⟩ dX5_findSteps_222 dX5_findSteps_223 (by decide) (fun h_222 => ?_) (fun h_222 => ?_)
                    · refine lv_iconst (v := iZ 0) hx hb dX5_findSteps_230 rfl ?_
                      exact zr_zret hQ hx hb hr hlk dX5_findSteps_231 hK hP hD hS (by omega) (by omega) (by omega) (⟨uu, uv, vu, vv, rfl, uc, vc, hI, Or.inr rfl⟩)
                    · refine lv_iconst (v := iZ 1) hx hb dX5_findSteps_226 rfl ?_
                      refine lv_goto (tgt := 231) hx hb dX5_findSteps_227 (by decide) ?_
                      exact zr_zret hQ hx hb hr hlk dX5_findSteps_231 hK hP hD hS (by omega) (by omega) (by omega) (⟨uu, uv, vu, vv, rfl, uc, vc, hI, Or.inl ⟨rfl, by omega⟩⟩)
              · refine lv_goto (tgt := 217) hx hb dX5_findSteps_107 (by decide) ?_
                refine lv_aload_n hx hb dX5_findSteps_217 rfl (lv_at hl 4 rfl) ?_
                refine va_get (D := D) (ci := 5) (v := .long (lZ (uv))) (C := RX5) (T := TX5) (N := 9) hx hb hts hin5 hown hK hP 0 rfl rfl 6 (by decide) q_f_RX5_37_Euclid_uv_J (fun _ h9 => h9) rfl dX5_findSteps_218 ?_
                refine lv_lconst (v := lZ 0) hx hb dX5_findSteps_221 rfl ?_
                refine zr_lcmp_eq hx hb 230 ⟨by omega, by omega⟩ ⟨by omega, by omega⟩ dX5_findSteps_222 dX5_findSteps_223 (by decide) (fun h_222 => ?_) (fun h_222 => ?_)
                · refine lv_iconst (v := iZ 0) hx hb dX5_findSteps_230 rfl ?_
                  exact zr_zret hQ hx hb hr hlk dX5_findSteps_231 hK hP hD hS (by omega) (by omega) (by omega) (⟨uu, uv, vu, vv, rfl, uc, vc, hI, Or.inr rfl⟩)
                · refine lv_iconst (v := iZ 1) hx hb dX5_findSteps_226 rfl ?_
                  refine lv_goto (tgt := 231) hx hb dX5_findSteps_227 (by decide) ?_
                  exact zr_zret hQ hx hb hr hlk dX5_findSteps_231 hK hP hD hS (by omega) (by omega) (by omega) (⟨uu, uv, vu, vv, rfl, uc, vc, hI, Or.inl ⟨rfl, by omega⟩⟩)
  refine lv_lload_n hx hb dX5_findSteps_0 rfl (lv_at hl 1 rfl) ?_
  refine lv_lstore (lv' := [(5, .long (lZ (gu))), (0, .ref (eu)), (1, .long (lZ (gu))), (3, .long (lZ (gv)))]) hx hb dX5_findSteps_1 hl (by decide) rfl (fun ls hl => ?_)
  refine lv_lload_n hx hb dX5_findSteps_3 rfl (lv_at hl 3 rfl) ?_
  refine lv_lstore (lv' := [(7, .long (lZ (gv))), (5, .long (lZ (gu))), (0, .ref (eu)), (1, .long (lZ (gu))), (3, .long (lZ (gv)))]) hx hb dX5_findSteps_4 hl (by decide) rfl (fun ls hl => ?_)
  refine lv_aload_n hx hb dX5_findSteps_6 rfl (lv_at hl 2 rfl) ?_
  refine lv_lconst (v := lZ 1) hx hb dX5_findSteps_7 rfl ?_
  refine va_put (D := D) (ci := 5) (v := .long (lZ (1))) (ty := tyX5 5) (C := RX5) (T := TX5) (N := 9) hx hb hts hin5 tyX5 tyX5_ok nmX5 hown hK hP hD hS 0 rfl rfl 5 (by decide) q_f_RX5_33_Euclid_uu_J (fun _ h9 => h9) rfl (tyX5_ok 5 (by decide)) rfl rfl (Nat.le_of_ble_eq_true rfl) dX5_findSteps_8 (fun H locs hP hD hS => ?_)
  have hP : va_P D vwCl [(eu, .inr (5, [.ref (dv), .ref (f1), .ref (f2), .ref (f3), .ref (f4), .long (lZ (1)), .long (lZ (q2)), .long (lZ (q3)), .long (lZ (q4))]))] H := hP
  have hD : va_D A [(eu, .inr (5, [.ref (dv), .ref (f1), .ref (f2), .ref (f3), .ref (f4), .long (lZ (1)), .long (lZ (q2)), .long (lZ (q3)), .long (lZ (q4))]))] := hD
  refine lv_aload_n hx hb dX5_findSteps_11 rfl (lv_at hl 2 rfl) ?_
  refine lv_lconst (v := lZ 0) hx hb dX5_findSteps_12 rfl ?_
  refine va_put (D := D) (ci := 5) (v := .long (lZ (0))) (ty := tyX5 6) (C := RX5) (T := TX5) (N := 9) hx hb hts hin5 tyX5 tyX5_ok nmX5 hown hK hP hD hS 0 rfl rfl 6 (by decide) q_f_RX5_37_Euclid_uv_J (fun _ h9 => h9) rfl (tyX5_ok 6 (by decide)) rfl rfl (Nat.le_of_ble_eq_true rfl) dX5_findSteps_13 (fun H locs hP hD hS => ?_)
  have hP : va_P D vwCl [(eu, .inr (5, [.ref (dv), .ref (f1), .ref (f2), .ref (f3), .ref (f4), .long (lZ (1)), .long (lZ (0)), .long (lZ (q3)), .long (lZ (q4))]))] H := hP
  have hD : va_D A [(eu, .inr (5, [.ref (dv), .ref (f1), .ref (f2), .ref (f3), .ref (f4), .long (lZ (1)), .long (lZ (0)), .long (lZ (q3)), .long (lZ (q4))]))] := hD
  refine lv_aload_n hx hb dX5_findSteps_16 rfl (lv_at hl 2 rfl) ?_
  refine lv_lconst (v := lZ 0) hx hb dX5_findSteps_17 rfl ?_
  refine va_put (D := D) (ci := 5) (v := .long (lZ (0))) (ty := tyX5 7) (C := RX5) (T := TX5) (N := 9) hx hb hts hin5 tyX5 tyX5_ok nmX5 hown hK hP hD hS 0 rfl rfl 7 (by decide) q_f_RX5_40_Euclid_vu_J (fun _ h9 => h9) rfl (tyX5_ok 7 (by decide)) rfl rfl (Nat.le_of_ble_eq_true rfl) dX5_findSteps_18 (fun H locs hP hD hS => ?_)
  have hP : va_P D vwCl [(eu, .inr (5, [.ref (dv), .ref (f1), .ref (f2), .ref (f3), .ref (f4), .long (lZ (1)), .long (lZ (0)), .long (lZ (0)), .long (lZ (q4))]))] H := hP
  have hD : va_D A [(eu, .inr (5, [.ref (dv), .ref (f1), .ref (f2), .ref (f3), .ref (f4), .long (lZ (1)), .long (lZ (0)), .long (lZ (0)), .long (lZ (q4))]))] := hD
  refine lv_aload_n hx hb dX5_findSteps_21 rfl (lv_at hl 2 rfl) ?_
  refine lv_lconst (v := lZ 1) hx hb dX5_findSteps_22 rfl ?_
  refine va_put (D := D) (ci := 5) (v := .long (lZ (1))) (ty := tyX5 8) (C := RX5) (T := TX5) (N := 9) hx hb hts hin5 tyX5 tyX5_ok nmX5 hown hK hP hD hS 0 rfl rfl 8 (by decide) q_f_RX5_43_Euclid_vv_J (fun _ h9 => h9) rfl (tyX5_ok 8 (by decide)) rfl rfl (Nat.le_of_ble_eq_true rfl) dX5_findSteps_23 (fun H locs hP hD hS => ?_)
  have hP : va_P D vwCl [(eu, .inr (5, [.ref (dv), .ref (f1), .ref (f2), .ref (f3), .ref (f4), .long (lZ (1)), .long (lZ (0)), .long (lZ (0)), .long (lZ (1))]))] H := hP
  have hD : va_D A [(eu, .inr (5, [.ref (dv), .ref (f1), .ref (f2), .ref (f3), .ref (f4), .long (lZ (1)), .long (lZ (0)), .long (lZ (0)), .long (lZ (1))]))] := hD
  refine lv_iconst (v := iZ 0) hx hb dX5_findSteps_26 rfl ?_
  refine lv_istore (lv' := [(9, .int (iZ (0))), (7, .long (lZ (gv))), (5, .long (lZ (gu))), (0, .ref (eu)), (1, .long (lZ (gu))), (3, .long (lZ (gv)))]) hx hb dX5_findSteps_27 hl (by decide) rfl (fun ls hl => ?_)
  exact lp 1000000 0 gu gv 1 0 0 1 H locs ls (by omega) (eu_I0 ⟨hg.1, hg.2.1⟩ ⟨hV0, hVU⟩) hP hD hS (lv_sub hl [0, 1, 2, 3, 4, 5] rfl)

set_option maxHeartbeats 4000000 in
set_option maxRecDepth 100000 in
/-- Euclid.carryOut -/
theorem c_carryOut (l : Launch) (D : va_G) (cI cJ cE cF cR : ClassId) (eu dv f1 f2 f3 f4 g gw h hw rg rh n k : Nat) (uu uv vu vv : Int) (d e : Nat → Int) (v1 v2 : Int) (h1 : bg_ok d n rg v1) (h2 : bg_ok e k rh v2) (hrg : rg < 2147483648) (hrh : rh < 2147483648) (hnrh : n ≤ rh) (hkn : k ≤ n) (hs1 : (0 ≤ uu ∧ uv ≤ 0) ∨ (uu ≤ 0 ∧ 0 ≤ uv)) (hs2 : (0 ≤ vu ∧ vv ≤ 0) ∨ (vu ≤ 0 ∧ 0 ≤ vv)) (hsm : eu_sm uu uv vu vv) (hUr : 0 ≤ uu * v1 + uv * v2 ∧ uu * v1 + uv * v2 ≤ v1) (hVr : 0 ≤ vu * v1 + vv * v2 ∧ vu * v1 + vv * v2 ≤ v1) : Cv l D (zty cI cJ cE cF cR) yX5_carryOut wsX5_carryOut (zRm 1 22) 0 0 [.ref (eu), .ref (g), .ref (h)] [(eu, .inr (5, [.ref (dv), .ref (f1), .ref (f2), .ref (f3), .ref (f4), .long (lZ (uu)), .long (lZ (uv)), .long (lZ (vu)), .long (lZ (vv))])), (g, .inr (9, [.ref (gw), .int (iZ (((n : Nat) : Int)))])), (gw, aI cI (rg) (d)), (h, .inr (9, [.ref (hw), .int (iZ (((k : Nat) : Int)))])), (hw, aI cI (rh) (e))] (fun w1 => ∃ (x y : Nat → Int) (n1 k1 : Nat), w1 = [(eu, .inr (5, [.ref (dv), .ref (f1), .ref (f2), .ref (f3), .ref (f4), .long (lZ (uu)), .long (lZ (uv)), .long (lZ (vu)), .long (lZ (vv))])), (g, .inr (9, [.ref (gw), .int (iZ (((n1 : Nat) : Int)))])), (gw, aI cI (rg) (x)), (h, .inr (9, [.ref (hw), .int (iZ (((k1 : Nat) : Int)))])), (hw, aI cI (rh) (y))] ∧ bg_ok x n1 rg (uu * v1 + uv * v2) ∧ bg_ok y k1 rh (vu * v1 + vv * v2)) := by
  unfold Cv
  refine zs (Qc := zQv D _ _) (cc := cX5_carryOut) (maxL := 13) (ret := none) (by decide) rfl (Nat.le_of_ble_eq_true rfl) ?_
  intro zp ze s zm below meth zc ls A args Q hQ hx hb hr hts hown hlk hml hnm hN hA hK hP hD hS hl
  have hin9 : ∀ w ∈ wsX90, w ∈ wsX5_carryOut := by decide +kernel
  have q_f_RX5_33_Euclid_uu_J := hts (.fieldLink RX5 33 "LimbSolver$Euclid" "uu" "J") (by decide +kernel)
  have hin5 : ∀ w ∈ wsX50, w ∈ wsX5_carryOut := by decide +kernel
  have q_f_RX5_37_Euclid_uv_J := hts (.fieldLink RX5 37 "LimbSolver$Euclid" "uv" "J") (by decide +kernel)
  have q_f_RX5_40_Euclid_vu_J := hts (.fieldLink RX5 40 "LimbSolver$Euclid" "vu" "J") (by decide +kernel)
  have q_f_RX5_43_Euclid_vv_J := hts (.fieldLink RX5 43 "LimbSolver$Euclid" "vv" "J") (by decide +kernel)
  have q_constantLong_RX5_104_2147483647 := hts (.constantLong RX5 104 (2147483647)) (by decide +kernel)
  have hl : lv_has ls 13 [(0, .ref (eu)), (1, .ref (g)), (2, .ref (h))] := hl
  have hnr := h1.1
  have hkr := h2.1
  have hlt := bg_ok_lt h1
  have lp : ∀ (t : Nat) (i : Nat) (cu : Int) (cv : Int) (x : Nat → Int) (y : Nat → Int) (H : Heap) (locs : List Loc) (ls : Array Slot), (i + t = n) → (bg_dg x n) → (bg_dg y i) → (bg_dg y k) → (∀ j : Nat, i ≤ j → x j = d j) → (∀ j : Nat, i ≤ j → y j = e j) → (-2147483648 ≤ cu ∧ cu ≤ 2147483648) → (-2147483648 ≤ cv ∧ cv ≤ 2147483648) → (bg_val x i + cu * bg_p i = uu * bg_val d i + uv * bg_val (bg_x e k) i) → (bg_val y i + cv * bg_p i = vu * bg_val d i + vv * bg_val (bg_x e k) i) →  va_P D vwCl [(eu, .inr (5, [.ref (dv), .ref (f1), .ref (f2), .ref (f3), .ref (f4), .long (lZ (uu)), .long (lZ (uv)), .long (lZ (vu)), .long (lZ (vv))])), (g, .inr (9, [.ref (gw), .int (iZ (((n : Nat) : Int)))])), (gw, aI cI (rg) (x)), (h, .inr (9, [.ref (hw), .int (iZ (((k : Nat) : Int)))])), (hw, aI cI (rh) (y))] H → va_D A [(eu, .inr (5, [.ref (dv), .ref (f1), .ref (f2), .ref (f3), .ref (f4), .long (lZ (uu)), .long (lZ (uv)), .long (lZ (vu)), .long (lZ (vv))])), (g, .inr (9, [.ref (gw), .int (iZ (((n : Nat) : Int)))])), (gw, aI cI (rg) (x)), (h, .inr (9, [.ref (hw), .int (iZ (((k : Nat) : Int)))])), (hw, aI cI (rh) (y))] → va_S A s.heap H locs → lv_has ls 13 [(8, .int (iZ (((i : Nat) : Int)))), (6, .long (lZ (cv))), (4, .long (lZ (cu))), (3, .int (iZ (((n : Nat) : Int)))), (0, .ref (eu)), (1, .ref (g)), (2, .ref (h))] → W zp l ze (zRm 1 22) s zm args below meth zc H locs 0 0 Q (F0 zm 33 ls []) := by
    intro t
    induction t with
    | zero =>
      intro i cu cv x y H locs ls hit hxi hyi hyk hxe hye hcu hcv hv1 hv2 hP hD hS hl
      have hin : i = n := by omega
      refine lv_iload hx hb dX5_carryOut_33 (lv_at hl 0 rfl) ?_
      refine lv_iload_n hx hb dX5_carryOut_35 rfl (lv_at hl 3 rfl) ?_
      refine zr_icmp_ge hx hb 146 ⟨by omega, by omega⟩ ⟨by omega, by omega⟩ dX5_carryOut_36 (by decide) (fun h_36 => ?_) (fun h_36 => ?_)
      · refine lv_aload_n hx hb dX5_carryOut_146 rfl (lv_at hl 5 rfl) ?_
        refine lv_iload_n hx hb dX5_carryOut_147 rfl (lv_at hl 3 rfl) ?_
        refine zc_Vv (As := [.int (iZ (((n : Nat) : Int)))]) (rest := []) (wr := [(eu, .inr (5, [.ref (dv), .ref (f1), .ref (f2), .ref (f3), .ref (f4), .long (lZ (uu)), .long (lZ (uv)), .long (lZ (vu)), .long (lZ (vv))])), (h, .inr (9, [.ref (hw), .int (iZ (((k : Nat) : Int)))])), (hw, aI cI (rh) (y))]) ⟨hx, hb, hml, hown, hts⟩ (c_trim l D cI cJ cE cF cR g gw rg n ((n : Nat) : Int) x h1.1 hrg hxi) (cwV 1 hts gX5_carryOut_X9_trim rfl rfl rfl (by decide +kernel) ⟨Nat.le_of_ble_eq_true rfl, Nat.le_of_ble_eq_true rfl⟩) hN hK hP hD hS hA [1, 2] [0, 3, 4] rfl rfl (by decide) (by decide) (by decide) (q0 := 0) (ci := 9) rfl rfl rfl rfl hl.1 (Nat.le_of_ble_eq_true rfl) dX5_carryOut_148 ⟨by decide, by decide⟩ (fun w1 H locs hp hP hD hS => ?_)
        obtain rfl : w1 = _ := hp
        have hP := hP.sub (ws' := [(eu, .inr (5, [.ref (dv), .ref (f1), .ref (f2), .ref (f3), .ref (f4), .long (lZ (uu)), .long (lZ (uv)), .long (lZ (vu)), .long (lZ (vv))])), (g, .inr (9, [.ref (gw), .int (iZ (((bg_trim x n : Nat) : Int)))])), (gw, aI cI (rg) (x)), (h, .inr (9, [.ref (hw), .int (iZ (((k : Nat) : Int)))])), (hw, aI cI (rh) (y))]) [0, 3, 4, 1, 2] rfl
        have hD := hD.sub (ws' := [(eu, .inr (5, [.ref (dv), .ref (f1), .ref (f2), .ref (f3), .ref (f4), .long (lZ (uu)), .long (lZ (uv)), .long (lZ (vu)), .long (lZ (vv))])), (g, .inr (9, [.ref (gw), .int (iZ (((bg_trim x n : Nat) : Int)))])), (gw, aI cI (rg) (x)), (h, .inr (9, [.ref (hw), .int (iZ (((k : Nat) : Int)))])), (hw, aI cI (rh) (y))]) [0, 3, 4, 1, 2] (by decide) rfl
        refine lv_aload_n hx hb dX5_carryOut_151 rfl (lv_at hl 6 rfl) ?_
        refine lv_iload_n hx hb dX5_carryOut_152 rfl (lv_at hl 3 rfl) ?_
        refine zc_Vv (As := [.int (iZ (((n : Nat) : Int)))]) (rest := []) (wr := [(eu, .inr (5, [.ref (dv), .ref (f1), .ref (f2), .ref (f3), .ref (f4), .long (lZ (uu)), .long (lZ (uv)), .long (lZ (vu)), .long (lZ (vv))])), (g, .inr (9, [.ref (gw), .int (iZ (((bg_trim x n : Nat) : Int)))])), (gw, aI cI (rg) (x))]) ⟨hx, hb, hml, hown, hts⟩ (c_trim l D cI cJ cE cF cR h hw rh n ((k : Nat) : Int) y hnrh hrh (hin ▸ hyi)) (cwV 1 hts gX5_carryOut_X9_trim rfl rfl rfl (by decide +kernel) ⟨Nat.le_of_ble_eq_true rfl, Nat.le_of_ble_eq_true rfl⟩) hN hK hP hD hS hA [3, 4] [0, 1, 2] rfl rfl (by decide) (by decide) (by decide) (q0 := 0) (ci := 9) rfl rfl rfl rfl hl.1 (Nat.le_of_ble_eq_true rfl) dX5_carryOut_153 ⟨by decide, by decide⟩ (fun w1 H locs hp hP hD hS => ?_)
        obtain rfl : w1 = _ := hp
        have hP := hP.sub (ws' := [(eu, .inr (5, [.ref (dv), .ref (f1), .ref (f2), .ref (f3), .ref (f4), .long (lZ (uu)), .long (lZ (uv)), .long (lZ (vu)), .long (lZ (vv))])), (g, .inr (9, [.ref (gw), .int (iZ (((bg_trim x n : Nat) : Int)))])), (gw, aI cI (rg) (x)), (h, .inr (9, [.ref (hw), .int (iZ (((bg_trim y n : Nat) : Int)))])), (hw, aI cI (rh) (y))]) [0, 1, 2, 3, 4] rfl
        have hD := hD.sub (ws' := [(eu, .inr (5, [.ref (dv), .ref (f1), .ref (f2), .ref (f3), .ref (f4), .long (lZ (uu)), .long (lZ (uv)), .long (lZ (vu)), .long (lZ (vv))])), (g, .inr (9, [.ref (gw), .int (iZ (((bg_trim x n : Nat) : Int)))])), (gw, aI cI (rg) (x)), (h, .inr (9, [.ref (hw), .int (iZ (((bg_trim y n : Nat) : Int)))])), (hw, aI cI (rh) (y))]) [0, 1, 2, 3, 4] (by decide) rfl
        exact zr_vret hQ hx hb hr hlk dX5_carryOut_156 hK hP hD hS (by omega) (by omega) (⟨x, y, _, _, rfl, eu_end h1.1 hxi ⟨hUr.1, by omega⟩ (by have q := hv1; rw [hin, bg_x_val e k n hkn, h1.2.2.2, h2.2.2.2] at q; exact q), eu_end hnrh (hin ▸ hyi) ⟨hVr.1, by omega⟩ (by have q := hv2; rw [hin, bg_x_val e k n hkn, h1.2.2.2, h2.2.2.2] at q; exact q)⟩)
      · exfalso; omega
    | succ t ih =>
      intro i cu cv x y H locs ls hit hxi hyi hyk hxe hye hcu hcv hv1 hv2 hP hD hS hl
      refine lv_iload hx hb dX5_carryOut_33 (lv_at hl 0 rfl) ?_
      refine lv_iload_n hx hb dX5_carryOut_35 rfl (lv_at hl 3 rfl) ?_
      refine zr_icmp_ge hx hb 146 ⟨by omega, by omega⟩ ⟨by omega, by omega⟩ dX5_carryOut_36 (by decide) (fun h_36 => ?_) (fun h_36 => ?_)
      · exfalso; omega
      · have bx := hxi i (by omega)
        have by_ := bg_at_dg hyk i
        have z1 := eu_cs hcu hs1 hsm.1 hsm.2.1 bx by_
        have z2 := eu_cs hcv hs2 hsm.2.2.1 hsm.2.2.2 bx by_
        refine lv_aload_n hx hb dX5_carryOut_39 rfl (lv_at hl 5 rfl) ?_
        refine va_getN (D := D) (ci := 9) (v := .ref (gw)) (C := RX9) (T := TX9) (N := 2) hx hb hts hin9 hown hK hP 1 rfl rfl 0 (by decide) (hN.F 5 rfl) (fun _ h9 => h9) rfl dX5_carryOut_40 ?_
        refine lv_iload hx hb dX5_carryOut_43 (lv_at hl 0 rfl) ?_
        refine zr_iald hx hb hK hP 2 0 rfl rfl (i) (by omega) (by omega) (by omega) dX5_carryOut_45 ?_
        refine zr_i2l hx hb ⟨by omega, by omega⟩ dX5_carryOut_46 ?_
        refine lv_lstore (lv' := [(9, .long (lZ ((x) (i)))), (8, .int (iZ (((i : Nat) : Int)))), (6, .long (lZ (cv))), (4, .long (lZ (cu))), (3, .int (iZ (((n : Nat) : Int)))), (0, .ref (eu)), (1, .ref (g)), (2, .ref (h))]) hx hb dX5_carryOut_47 hl (by decide) rfl (fun ls hl => ?_)
        refine lv_aload_n hx hb dX5_carryOut_49 rfl (lv_at hl 7 rfl) ?_
        refine lv_iload hx hb dX5_carryOut_50 (lv_at hl 1 rfl) ?_
        refine zc_Vi (As := [.int (iZ (((i : Nat) : Int)))]) (rest := []) (wr := [(eu, .inr (5, [.ref (dv), .ref (f1), .ref (f2), .ref (f3), .ref (f4), .long (lZ (uu)), .long (lZ (uv)), .long (lZ (vu)), .long (lZ (vv))])), (g, .inr (9, [.ref (gw), .int (iZ (((n : Nat) : Int)))])), (gw, aI cI (rg) (x))]) ⟨hx, hb, hml, hown, hts⟩ (c_wordAt l D cI cJ cE cF cR h hw rh k y ((i : Nat) : Int) ⟨by omega, by omega⟩ h2.1 hrh hyk) (cwV 1 hts gX5_carryOut_X9_wordAt rfl rfl rfl (by decide +kernel) ⟨Nat.le_of_ble_eq_true rfl, Nat.le_of_ble_eq_true rfl⟩) hN hK hP hD hS hA [3, 4] [0, 1, 2] rfl rfl (by decide) (by decide) (by decide) (q0 := 0) (ci := 9) rfl rfl rfl rfl hl.1 (Nat.le_of_ble_eq_true rfl) dX5_carryOut_52 ⟨by decide, by decide⟩ (fun z52 w1 H locs hz52 hp hP hD hS => ?_)
        obtain ⟨hw1, hx0⟩ := hp
        subst hw1
        subst hx0
        have hP := hP.sub (ws' := [(eu, .inr (5, [.ref (dv), .ref (f1), .ref (f2), .ref (f3), .ref (f4), .long (lZ (uu)), .long (lZ (uv)), .long (lZ (vu)), .long (lZ (vv))])), (g, .inr (9, [.ref (gw), .int (iZ (((n : Nat) : Int)))])), (gw, aI cI (rg) (x)), (h, .inr (9, [.ref (hw), .int (iZ (((k : Nat) : Int)))])), (hw, aI cI (rh) (y))]) [0, 1, 2, 3, 4] rfl
        have hD := hD.sub (ws' := [(eu, .inr (5, [.ref (dv), .ref (f1), .ref (f2), .ref (f3), .ref (f4), .long (lZ (uu)), .long (lZ (uv)), .long (lZ (vu)), .long (lZ (vv))])), (g, .inr (9, [.ref (gw), .int (iZ (((n : Nat) : Int)))])), (gw, aI cI (rg) (x)), (h, .inr (9, [.ref (hw), .int (iZ (((k : Nat) : Int)))])), (hw, aI cI (rh) (y))]) [0, 1, 2, 3, 4] (by decide) rfl
        refine zr_i2l hx hb ⟨by omega, by omega⟩ dX5_carryOut_55 ?_
        refine lv_lstore (lv' := [(11, .long (lZ (bg_at y k ((i : Nat) : Int)))), (9, .long (lZ ((x) (i)))), (8, .int (iZ (((i : Nat) : Int)))), (6, .long (lZ (cv))), (4, .long (lZ (cu))), (3, .int (iZ (((n : Nat) : Int)))), (0, .ref (eu)), (1, .ref (g)), (2, .ref (h))]) hx hb dX5_carryOut_56 hl (by decide) rfl (fun ls hl => ?_)
        refine lv_lload hx hb dX5_carryOut_58 (lv_at hl 4 rfl) ?_
        refine lv_aload_n hx hb dX5_carryOut_60 rfl (lv_at hl 6 rfl) ?_
        refine va_get (D := D) (ci := 5) (v := .long (lZ (uu))) (C := RX5) (T := TX5) (N := 9) hx hb hts hin5 hown hK hP 0 rfl rfl 5 (by decide) q_f_RX5_33_Euclid_uu_J (fun _ h9 => h9) rfl dX5_carryOut_61 ?_
        refine lv_lload hx hb dX5_carryOut_64 (lv_at hl 1 rfl) ?_
        refine zr_lmul hx hb dX5_carryOut_66 ?_
        refine lv_aload_n hx hb dX5_carryOut_67 rfl (lv_at hl 6 rfl) ?_
        refine va_get (D := D) (ci := 5) (v := .long (lZ (uv))) (C := RX5) (T := TX5) (N := 9) hx hb hts hin5 hown hK hP 0 rfl rfl 6 (by decide) q_f_RX5_37_Euclid_uv_J (fun _ h9 => h9) rfl dX5_carryOut_68 ?_
        refine lv_lload hx hb dX5_carryOut_71 (lv_at hl 0 rfl) ?_
        refine zr_lmul hx hb dX5_carryOut_73 ?_
        refine zr_ladd hx hb dX5_carryOut_74 ?_
        refine zr_ladd hx hb dX5_carryOut_75 ?_
        refine lv_lstore (lv' := [(4, .long (lZ ((cu) + (((uu) * ((x) (i))) + ((uv) * (bg_at y k ((i : Nat) : Int))))))), (11, .long (lZ (bg_at y k ((i : Nat) : Int)))), (9, .long (lZ ((x) (i)))), (8, .int (iZ (((i : Nat) : Int)))), (6, .long (lZ (cv))), (3, .int (iZ (((n : Nat) : Int)))), (0, .ref (eu)), (1, .ref (g)), (2, .ref (h))]) hx hb dX5_carryOut_76 hl (by decide) rfl (fun ls hl => ?_)
        refine lv_lload hx hb dX5_carryOut_78 (lv_at hl 4 rfl) ?_
        refine lv_aload_n hx hb dX5_carryOut_80 rfl (lv_at hl 6 rfl) ?_
        refine va_get (D := D) (ci := 5) (v := .long (lZ (vu))) (C := RX5) (T := TX5) (N := 9) hx hb hts hin5 hown hK hP 0 rfl rfl 7 (by decide) q_f_RX5_40_Euclid_vu_J (fun _ h9 => h9) rfl dX5_carryOut_81 ?_
        refine lv_lload hx hb dX5_carryOut_84 (lv_at hl 2 rfl) ?_
        refine zr_lmul hx hb dX5_carryOut_86 ?_
        refine lv_aload_n hx hb dX5_carryOut_87 rfl (lv_at hl 6 rfl) ?_
        refine va_get (D := D) (ci := 5) (v := .long (lZ (vv))) (C := RX5) (T := TX5) (N := 9) hx hb hts hin5 hown hK hP 0 rfl rfl 8 (by decide) q_f_RX5_43_Euclid_vv_J (fun _ h9 => h9) rfl dX5_carryOut_88 ?_
        refine lv_lload hx hb dX5_carryOut_91 (lv_at hl 1 rfl) ?_
        refine zr_lmul hx hb dX5_carryOut_93 ?_
        refine zr_ladd hx hb dX5_carryOut_94 ?_
        refine zr_ladd hx hb dX5_carryOut_95 ?_
        refine lv_lstore (lv' := [(6, .long (lZ ((cv) + (((vu) * ((x) (i))) + ((vv) * (bg_at y k ((i : Nat) : Int))))))), (4, .long (lZ ((cu) + (((uu) * ((x) (i))) + ((uv) * (bg_at y k ((i : Nat) : Int))))))), (11, .long (lZ (bg_at y k ((i : Nat) : Int)))), (9, .long (lZ ((x) (i)))), (8, .int (iZ (((i : Nat) : Int)))), (3, .int (iZ (((n : Nat) : Int)))), (0, .ref (eu)), (1, .ref (g)), (2, .ref (h))]) hx hb dX5_carryOut_96 hl (by decide) rfl (fun ls hl => ?_)
        refine lv_aload_n hx hb dX5_carryOut_98 rfl (lv_at hl 7 rfl) ?_
        refine va_getN (D := D) (ci := 9) (v := .ref (gw)) (C := RX9) (T := TX9) (N := 2) hx hb hts hin9 hown hK hP 1 rfl rfl 0 (by decide) (hN.F 5 rfl) (fun _ h9 => h9) rfl dX5_carryOut_99 ?_
        refine lv_iload hx hb dX5_carryOut_102 (lv_at hl 4 rfl) ?_
        refine lv_lload hx hb dX5_carryOut_104 (lv_at hl 1 rfl) ?_
        refine zr_ldc2 hx hb 2147483647 (by decide) hown q_constantLong_RX5_104_2147483647 dX5_carryOut_106 ?_
        refine zr_land31 hx hb dX5_carryOut_109 ?_
        refine zr_l2i hx hb dX5_carryOut_110 ?_
        refine zr_iast hx hb hK hP hD hS 2 0 rfl rfl (i) (by omega) (by omega) (by omega) dX5_carryOut_111 (fun H locs hP hD hS => ?_)
        have hP : va_P D vwCl [(eu, .inr (5, [.ref (dv), .ref (f1), .ref (f2), .ref (f3), .ref (f4), .long (lZ (uu)), .long (lZ (uv)), .long (lZ (vu)), .long (lZ (vv))])), (g, .inr (9, [.ref (gw), .int (iZ (((n : Nat) : Int)))])), (gw, aI cI (rg) (zu (x) (i) (((cu) + (((uu) * ((x) (i))) + ((uv) * (bg_at y k ((i : Nat) : Int))))) % 2147483648))), (h, .inr (9, [.ref (hw), .int (iZ (((k : Nat) : Int)))])), (hw, aI cI (rh) (y))] H := hP
        have hD : va_D A [(eu, .inr (5, [.ref (dv), .ref (f1), .ref (f2), .ref (f3), .ref (f4), .long (lZ (uu)), .long (lZ (uv)), .long (lZ (vu)), .long (lZ (vv))])), (g, .inr (9, [.ref (gw), .int (iZ (((n : Nat) : Int)))])), (gw, aI cI (rg) (zu (x) (i) (((cu) + (((uu) * ((x) (i))) + ((uv) * (bg_at y k ((i : Nat) : Int))))) % 2147483648))), (h, .inr (9, [.ref (hw), .int (iZ (((k : Nat) : Int)))])), (hw, aI cI (rh) (y))] := hD
        refine lv_aload_n hx hb dX5_carryOut_112 rfl (lv_at hl 8 rfl) ?_
        refine va_getN (D := D) (ci := 9) (v := .ref (hw)) (C := RX9) (T := TX9) (N := 2) hx hb hts hin9 hown hK hP 3 rfl rfl 0 (by decide) (hN.F 5 rfl) (fun _ h9 => h9) rfl dX5_carryOut_113 ?_
        refine lv_iload hx hb dX5_carryOut_116 (lv_at hl 4 rfl) ?_
        refine lv_lload hx hb dX5_carryOut_118 (lv_at hl 0 rfl) ?_
        refine zr_ldc2 hx hb 2147483647 (by decide) hown q_constantLong_RX5_104_2147483647 dX5_carryOut_120 ?_
        refine zr_land31 hx hb dX5_carryOut_123 ?_
        refine zr_l2i hx hb dX5_carryOut_124 ?_
        refine zr_iast hx hb hK hP hD hS 4 0 rfl rfl (i) (by omega) (by omega) (by omega) dX5_carryOut_125 (fun H locs hP hD hS => ?_)
        have hP : va_P D vwCl [(eu, .inr (5, [.ref (dv), .ref (f1), .ref (f2), .ref (f3), .ref (f4), .long (lZ (uu)), .long (lZ (uv)), .long (lZ (vu)), .long (lZ (vv))])), (g, .inr (9, [.ref (gw), .int (iZ (((n : Nat) : Int)))])), (gw, aI cI (rg) (zu (x) (i) (((cu) + (((uu) * ((x) (i))) + ((uv) * (bg_at y k ((i : Nat) : Int))))) % 2147483648))), (h, .inr (9, [.ref (hw), .int (iZ (((k : Nat) : Int)))])), (hw, aI cI (rh) (zu (y) (i) (((cv) + (((vu) * ((x) (i))) + ((vv) * (bg_at y k ((i : Nat) : Int))))) % 2147483648)))] H := hP
        have hD : va_D A [(eu, .inr (5, [.ref (dv), .ref (f1), .ref (f2), .ref (f3), .ref (f4), .long (lZ (uu)), .long (lZ (uv)), .long (lZ (vu)), .long (lZ (vv))])), (g, .inr (9, [.ref (gw), .int (iZ (((n : Nat) : Int)))])), (gw, aI cI (rg) (zu (x) (i) (((cu) + (((uu) * ((x) (i))) + ((uv) * (bg_at y k ((i : Nat) : Int))))) % 2147483648))), (h, .inr (9, [.ref (hw), .int (iZ (((k : Nat) : Int)))])), (hw, aI cI (rh) (zu (y) (i) (((cv) + (((vu) * ((x) (i))) + ((vv) * (bg_at y k ((i : Nat) : Int))))) % 2147483648)))] := hD
        refine lv_lload hx hb dX5_carryOut_126 (lv_at hl 1 rfl) ?_
        refine lv_bipush (v := iZ 31) hx hb dX5_carryOut_128 (by decide) ?_
        refine zr_lshr31 hx hb ⟨by omega, by omega⟩ dX5_carryOut_130 ?_
        refine lv_lstore (lv' := [(4, .long (lZ (((cu) + (((uu) * ((x) (i))) + ((uv) * (bg_at y k ((i : Nat) : Int))))) / 2147483648))), (6, .long (lZ ((cv) + (((vu) * ((x) (i))) + ((vv) * (bg_at y k ((i : Nat) : Int))))))), (11, .long (lZ (bg_at y k ((i : Nat) : Int)))), (9, .long (lZ ((x) (i)))), (8, .int (iZ (((i : Nat) : Int)))), (3, .int (iZ (((n : Nat) : Int)))), (0, .ref (eu)), (1, .ref (g)), (2, .ref (h))]) hx hb dX5_carryOut_131 hl (by decide) rfl (fun ls hl => ?_)
        refine lv_lload hx hb dX5_carryOut_133 (lv_at hl 1 rfl) ?_
        refine lv_bipush (v := iZ 31) hx hb dX5_carryOut_135 (by decide) ?_
        refine zr_lshr31 hx hb ⟨by omega, by omega⟩ dX5_carryOut_137 ?_
        refine lv_lstore (lv' := [(6, .long (lZ (((cv) + (((vu) * ((x) (i))) + ((vv) * (bg_at y k ((i : Nat) : Int))))) / 2147483648))), (4, .long (lZ (((cu) + (((uu) * ((x) (i))) + ((uv) * (bg_at y k ((i : Nat) : Int))))) / 2147483648))), (11, .long (lZ (bg_at y k ((i : Nat) : Int)))), (9, .long (lZ ((x) (i)))), (8, .int (iZ (((i : Nat) : Int)))), (3, .int (iZ (((n : Nat) : Int)))), (0, .ref (eu)), (1, .ref (g)), (2, .ref (h))]) hx hb dX5_carryOut_138 hl (by decide) rfl (fun ls hl => ?_)
        refine lv_iinc (v := iZ (((i + 1 : Nat) : Int))) (lv' := [(8, .int (iZ (((i + 1 : Nat) : Int)))), (6, .long (lZ (((cv) + (((vu) * ((x) (i))) + ((vv) * (bg_at y k ((i : Nat) : Int))))) / 2147483648))), (4, .long (lZ (((cu) + (((uu) * ((x) (i))) + ((uv) * (bg_at y k ((i : Nat) : Int))))) / 2147483648))), (11, .long (lZ (bg_at y k ((i : Nat) : Int)))), (9, .long (lZ ((x) (i)))), (3, .int (iZ (((n : Nat) : Int)))), (0, .ref (eu)), (1, .ref (g)), (2, .ref (h))]) hx hb dX5_carryOut_140 hl (k := 4) rfl (by rw [show ((i + 1 : Nat) : Int) = ((i : Nat) : Int) + 1 by omega]; exact iZ_add _ _) (by decide) rfl (fun ls hl => ?_)
        refine lv_goto (tgt := 33) hx hb dX5_carryOut_143 (by decide) ?_
        exact ih (i + 1) _ _ _ _ H locs ls (by omega) (bg_zu_dg hxi (bg_mod _)) (bg_zu_dgs hyi (bg_mod _)) (bg_zu_dg hyk (bg_mod _)) (fun j hj => by rw [bg_zu_hi (by omega)]; exact hxe j (by omega)) (fun j hj => by rw [bg_zu_hi (by omega)]; exact hye j (by omega)) z1.2.2.2.2 z2.2.2.2.2 (by have q := eu_sum (e := e) hv1; rw [← hxe i (Nat.le_refl i), show bg_at e k ((i : Nat) : Int) = bg_at y k ((i : Nat) : Int) by (rw [bg_at_x, bg_at_x]; unfold bg_x; rw [hye i (Nat.le_refl i)])] at q; exact q) (by have q := eu_sum (e := e) hv2; rw [← hxe i (Nat.le_refl i), show bg_at e k ((i : Nat) : Int) = bg_at y k ((i : Nat) : Int) by (rw [bg_at_x, bg_at_x]; unfold bg_x; rw [hye i (Nat.le_refl i)])] at q; exact q) hP hD hS (lv_sub hl [0, 1, 2, 5, 6, 7, 8] rfl)
  refine lv_aload_n hx hb dX5_carryOut_0 rfl (lv_at hl 1 rfl) ?_
  refine va_getN (D := D) (ci := 9) (v := .int (iZ (((n : Nat) : Int)))) (C := RX9) (T := TX9) (N := 2) hx hb hts hin9 hown hK hP 1 rfl rfl 1 (by decide) (hN.F 7 rfl) (fun _ h9 => h9) rfl dX5_carryOut_1 ?_
  refine lv_istore_n (lv' := [(3, .int (iZ (((n : Nat) : Int)))), (0, .ref (eu)), (1, .ref (g)), (2, .ref (h))]) hx hb dX5_carryOut_4 rfl hl (by decide) rfl (fun ls hl => ?_)
  refine lv_iload_n hx hb dX5_carryOut_5 rfl (lv_at hl 0 rfl) ?_
  refine lv_aload_n hx hb dX5_carryOut_6 rfl (lv_at hl 2 rfl) ?_
  refine va_getN (D := D) (ci := 9) (v := .ref (gw)) (C := RX9) (T := TX9) (N := 2) hx hb hts hin9 hown hK hP 1 rfl rfl 0 (by decide) (hN.F 5 rfl) (fun _ h9 => h9) rfl dX5_carryOut_7 ?_
  refine zr_alen hx hb hK hP 2 0 rfl rfl dX5_carryOut_10 ?_
  refine zr_icmp_gt hx hb 23 ⟨by omega, by omega⟩ ⟨by omega, by omega⟩ dX5_carryOut_11 (by decide) (fun h_11 => ?_) (fun h_11 => ?_)
  · exfalso; omega
  · refine lv_iload_n hx hb dX5_carryOut_14 rfl (lv_at hl 0 rfl) ?_
    refine lv_aload_n hx hb dX5_carryOut_15 rfl (lv_at hl 3 rfl) ?_
    refine va_getN (D := D) (ci := 9) (v := .ref (hw)) (C := RX9) (T := TX9) (N := 2) hx hb hts hin9 hown hK hP 3 rfl rfl 0 (by decide) (hN.F 5 rfl) (fun _ h9 => h9) rfl dX5_carryOut_16 ?_
    refine zr_alen hx hb hK hP 4 0 rfl rfl dX5_carryOut_19 ?_
    refine zr_icmp_le hx hb 24 ⟨by omega, by omega⟩ ⟨by omega, by omega⟩ dX5_carryOut_20 (by decide) (fun h_20 => ?_) (fun h_20 => ?_)
    · refine lv_lconst (v := lZ 0) hx hb dX5_carryOut_24 rfl ?_
      refine lv_lstore (lv' := [(4, .long (lZ (0))), (3, .int (iZ (((n : Nat) : Int)))), (0, .ref (eu)), (1, .ref (g)), (2, .ref (h))]) hx hb dX5_carryOut_25 hl (by decide) rfl (fun ls hl => ?_)
      refine lv_lconst (v := lZ 0) hx hb dX5_carryOut_27 rfl ?_
      refine lv_lstore (lv' := [(6, .long (lZ (0))), (4, .long (lZ (0))), (3, .int (iZ (((n : Nat) : Int)))), (0, .ref (eu)), (1, .ref (g)), (2, .ref (h))]) hx hb dX5_carryOut_28 hl (by decide) rfl (fun ls hl => ?_)
      refine lv_iconst (v := iZ 0) hx hb dX5_carryOut_30 rfl ?_
      refine lv_istore (lv' := [(8, .int (iZ (0))), (6, .long (lZ (0))), (4, .long (lZ (0))), (3, .int (iZ (((n : Nat) : Int)))), (0, .ref (eu)), (1, .ref (g)), (2, .ref (h))]) hx hb dX5_carryOut_31 hl (by decide) rfl (fun ls hl => ?_)
      exact lp n 0 0 0 d e s.heap [] ls (by omega) h1.2.1 (fun j hj => absurd hj (Nat.not_lt_zero j)) h2.2.1 (fun j _ => rfl) (fun j _ => rfl) ⟨by omega, by omega⟩ ⟨by omega, by omega⟩ (by simp [bg_v0]) (by simp [bg_v0]) hP hD hS (lv_sub hl [0, 1, 2, 3, 4, 5, 6] rfl)
    · exfalso; omega
