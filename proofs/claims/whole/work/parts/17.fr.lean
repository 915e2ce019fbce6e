def bg_cmp (a b z : Int) : Prop := (a < b ∧ z = -1) ∨ (a = b ∧ z = 0) ∨ (b < a ∧ z = 1)
theorem bg_ok0 {g : Nat → Int} {room : Nat} : bg_ok g 0 room 0 := ⟨Nat.zero_le _, fun i hi => absurd hi (Nat.not_lt_zero i), fun q => absurd q (Nat.lt_irrefl 0), rfl⟩
/-- what limb z of v is told as -/
def bg_lm (v z r : Int) : Prop := ((z < 0 ∨ ∃ x : Nat, bg_lc v x ∧ (x : Int) ≤ z) ∧ r = -1) ∨ ∃ (kk x : Nat), z = kk ∧ bg_lc v x ∧ kk < x ∧ r = v / bg_t (16 * kk) % 65536
/-- what 'which', k tell of a fraction -/
def bg_tl (sg vn vd wh z r : Int) : Prop := (wh = 0 ∧ r = sg) ∨ (wh ≠ 0 ∧ ((z = -1 ∧ ∃ x : Nat, r = x ∧ bg_lc (if wh = 1 then vn else vd) x) ∨ (z ≠ -1 ∧ bg_lm (if wh = 1 then vn else vd) z r)))
theorem bg_lc_bound {v : Int} {x : Nat} (h : bg_lc v x) (h0 : 0 ≤ v) {m : Nat} (hv : v < bg_t (16 * m)) : x ≤ m := by
  rcases Nat.lt_or_ge m x with q | q
  · have a1 := h.2 (by omega)
    have a2 := bg_t_le (show 16 * m ≤ 16 * (x - 1) by omega)
    omega
  · exact q
theorem bg_p1_le {r : Nat} (h : 1 ≤ r) : (1 : Int) < bg_p r := by
  have := bg_p_le h
  have := bg_p_small.1
  omega
set_option maxHeartbeats 4000000 in
set_option maxRecDepth 100000 in
/-- LimbSolver.signOf -/
theorem c_signOf (l : Launch) (D : va_G) (cI cJ cE cF cR : ClassId) (a : Int) (ha : lR a) : Ci l D (zty cI cJ cE cF cR) yX10_signOf wsX10_signOf (zRm 0 0) 0 0 [.long (lZ (a))] [] (fun r w1 => w1 = [] ∧ bg_cmp a 0 r) := by
  unfold Ci
  refine zs (Qc := zQi D _ _) (cc := cX10_signOf) (maxL := 2) (ret := (some .int)) (by decide) rfl (Nat.le_of_ble_eq_true rfl) ?_
  intro zp ze s zm below meth zc ls A args Q hQ hx hb hr hts hown hlk hml hnm hN hA hK hP hD hS hl
  have hl : lv_has ls 2 [(0, .long (lZ (a)))] := hl
  refine lv_lload_n hx hb dX10_signOf_0 rfl (lv_at hl 0 rfl) ?_
  refine lv_lconst (v := lZ 0) hx hb dX10_signOf_1 rfl ?_
  refine zr_lcmp_ne hx hb 8 ⟨by omega, by omega⟩ ⟨by omega, by omega⟩ dX10_signOf_2 dX10_signOf_3 (by decide) (fun h_2 => ?_) (fun h_2 => ?_)
  · refine lv_lload_n hx hb dX10_signOf_8 rfl (lv_at hl 0 rfl) ?_
    refine lv_lconst (v := lZ 0) hx hb dX10_signOf_9 rfl ?_
    refine zr_lcmp_ge hx hb 18 ⟨by omega, by omega⟩ ⟨by omega, by omega⟩ dX10_signOf_10 dX10_signOf_11 (by decide) (fun h_10 => ?_) (fun h_10 => ?_)
    · refine lv_iconst (v := iZ 1) hx hb dX10_signOf_18 rfl ?_
      exact zr_iret hQ hx hb hr hlk dX10_signOf_19 hK hP hD hS (by omega) (by omega) (by decide) (⟨rfl, Or.inr (Or.inr ⟨by omega, rfl⟩)⟩)
    · refine lv_iconst (v := iZ (-1)) hx hb dX10_signOf_14 rfl ?_
      refine lv_goto (tgt := 19) hx hb dX10_signOf_15 (by decide) ?_
      exact zr_iret hQ hx hb hr hlk dX10_signOf_19 hK hP hD hS (by omega) (by omega) (by decide) (⟨rfl, Or.inl ⟨by omega, rfl⟩⟩)
  · refine lv_iconst (v := iZ 0) hx hb dX10_signOf_6 rfl ?_
    exact zr_iret hQ hx hb hr hlk dX10_signOf_7 hK hP hD hS (by omega) (by omega) (by decide) (⟨rfl, Or.inr (Or.inl ⟨by omega, rfl⟩)⟩)

set_option maxHeartbeats 4000000 in
set_option maxRecDepth 100000 in
/-- Fraction.clear -/
theorem c_fclear (l : Launch) (D : va_G) (cI cJ cE cF cR : ClassId) (f fn nw fd dw rn rd : Nat) (sg cn cd : Int) (gn gd : Nat → Int) (hrd1 : 1 ≤ rd) (hrd : rd < 2147483648) : Cv l D (zty cI cJ cE cF cR) yX6_clear wsX6_clear (zRm 1 24) 0 0 [.ref (f)] [(f, .inr (6, [.ref (fn), .ref (fd), .int (iZ (sg))])), (fn, .inr (9, [.ref (nw), .int (iZ (cn))])), (nw, aI cI (rn) (gn)), (fd, .inr (9, [.ref (dw), .int (iZ (cd))])), (dw, aI cI (rd) (gd))] (fun w1 => ∃ (g1 : Nat → Int) (n1 : Nat) (g2 : Nat → Int) (n2 : Nat), w1 = [(f, .inr (6, [.ref (fn), .ref (fd), .int (iZ (0))])), (fn, .inr (9, [.ref (nw), .int (iZ (((n1 : Nat) : Int)))])), (nw, aI cI (rn) (g1)), (fd, .inr (9, [.ref (dw), .int (iZ (((n2 : Nat) : Int)))])), (dw, aI cI (rd) (g2))] ∧ bg_ok g1 n1 rn 0 ∧ bg_ok g2 n2 rd 1) := by
  unfold Cv
  refine zs (Qc := zQv D _ _) (cc := cX6_clear) (maxL := 1) (ret := none) (by decide) rfl (Nat.le_of_ble_eq_true rfl) ?_
  intro zp ze s zm below meth zc ls A args Q hQ hx hb hr hts hown hlk hml hnm hN hA hK hP hD hS hl
  have q_f_RX6_24_Fraction_sign_I := hts (.fieldLink RX6 24 "LimbSolver$Fraction" "sign" "I") (by decide +kernel)
  have hin6 : ∀ w ∈ wsX60, w ∈ wsX6_clear := by decide +kernel
  have q_f_RX6_12_Fraction_num_LWhole := hts (.fieldLink RX6 12 "LimbSolver$Fraction" "num" "LLimbSolver$Whole;") (by decide +kernel)
  have q_f_RX6_18_Fraction_den_LWhole := hts (.fieldLink RX6 18 "LimbSolver$Fraction" "den" "LLimbSolver$Whole;") (by decide +kernel)
  have hl : lv_has ls 1 [(0, .ref (f))] := hl
  refine lv_aload_n hx hb dX6_clear_0 rfl (lv_at hl 0 rfl) ?_
  refine lv_iconst (v := iZ 0) hx hb dX6_clear_1 rfl ?_
  refine va_put (D := D) (ci := 6) (v := .int (iZ (0))) (ty := tyX6 2) (C := RX6) (T := TX6) (N := 3) hx hb hts hin6 tyX6 tyX6_ok nmX6 hown hK hP hD hS 0 rfl rfl 2 (by decide) q_f_RX6_24_Fraction_sign_I (fun _ h9 => h9) rfl (tyX6_ok 2 (by decide)) rfl rfl (Nat.le_of_ble_eq_true rfl) dX6_clear_2 (fun H locs hP hD hS => ?_)
  have hP : va_P D vwCl [(f, .inr (6, [.ref (fn), .ref (fd), .int (iZ (0))])), (fn, .inr (9, [.ref (nw), .int (iZ (cn))])), (nw, aI cI (rn) (gn)), (fd, .inr (9, [.ref (dw), .int (iZ (cd))])), (dw, aI cI (rd) (gd))] H := hP
  have hD : va_D A [(f, .inr (6, [.ref (fn), .ref (fd), .int (iZ (0))])), (fn, .inr (9, [.ref (nw), .int (iZ (cn))])), (nw, aI cI (rn) (gn)), (fd, .inr (9, [.ref (dw), .int (iZ (cd))])), (dw, aI cI (rd) (gd))] := hD
  refine lv_aload_n hx hb dX6_clear_5 rfl (lv_at hl 0 rfl) ?_
  refine va_get (D := D) (ci := 6) (v := .ref (fn)) (C := RX6) (T := TX6) (N := 3) hx hb hts hin6 hown hK hP 0 rfl rfl 0 (by decide) q_f_RX6_12_Fraction_num_LWhole (fun _ h9 => h9) rfl dX6_clear_6 ?_
  refine zc_Vv (As := []) (rest := []) (wr := [(f, .inr (6, [.ref (fn), .ref (fd), .int (iZ (0))])), (nw, aI cI (rn) (gn)), (fd, .inr (9, [.ref (dw), .int (iZ (cd))])), (dw, aI cI (rd) (gd))]) ⟨hx, hb, hml, hown, hts⟩ (c_clear l D cI cJ cE cF cR fn nw cn) (cwV 0 hts gX6_clear_X9_clear rfl rfl rfl (by decide +kernel) ⟨Nat.le_of_ble_eq_true rfl, Nat.le_of_ble_eq_true rfl⟩) hN hK hP hD hS hA [1] [0, 2, 3, 4] rfl rfl (by decide) (by decide) (by decide) (q0 := 0) (ci := 9) rfl rfl rfl rfl hl.1 (Nat.le_of_ble_eq_true rfl) dX6_clear_9 ⟨by decide, by decide⟩ (fun w1 H locs hp hP hD hS => ?_)
  obtain rfl : w1 = _ := hp
  have hP := hP.sub (ws' := [(f, .inr (6, [.ref (fn), .ref (fd), .int (iZ (0))])), (fn, .inr (9, [.ref (nw), .int (iZ (0))])), (nw, aI cI (rn) (gn)), (fd, .inr (9, [.ref (dw), .int (iZ (cd))])), (dw, aI cI (rd) (gd))]) [0, 4, 1, 2, 3] rfl
  have hD := hD.sub (ws' := [(f, .inr (6, [.ref (fn), .ref (fd), .int (iZ (0))])), (fn, .inr (9, [.ref (nw), .int (iZ (0))])), (nw, aI cI (rn) (gn)), (fd, .inr (9, [.ref (dw), .int (iZ (cd))])), (dw, aI cI (rd) (gd))]) [0, 4, 1, 2, 3] (by decide) rfl
  refine lv_aload_n hx hb dX6_clear_12 rfl (lv_at hl 0 rfl) ?_
  refine va_get (D := D) (ci := 6) (v := .ref (fd)) (C := RX6) (T := TX6) (N := 3) hx hb hts hin6 hown hK hP 0 rfl rfl 1 (by decide) q_f_RX6_18_Fraction_den_LWhole (fun _ h9 => h9) rfl dX6_clear_13 ?_
  refine lv_lconst (v := lZ 1) hx hb dX6_clear_16 rfl ?_
  refine zc_Vv (As := [.long (lZ (1))]) (rest := []) (wr := [(f, .inr (6, [.ref (fn), .ref (fd), .int (iZ (0))])), (fn, .inr (9, [.ref (nw), .int (iZ (0))])), (nw, aI cI (rn) (gn))]) ⟨hx, hb, hml, hown, hts⟩ (c_assign l D cI cJ cE cF cR fd dw rd (cd) gd (1) ⟨by omega, by omega⟩ (bg_p1_le hrd1) hrd) (cwV 1 hts gX6_clear_X9_assign rfl rfl rfl (by decide +kernel) ⟨Nat.le_of_ble_eq_true rfl, Nat.le_of_ble_eq_true rfl⟩) hN hK hP hD hS hA [3, 4] [0, 1, 2] rfl rfl (by decide) (by decide) (by decide) (q0 := 0) (ci := 9) rfl rfl rfl rfl hl.1 (Nat.le_of_ble_eq_true rfl) dX6_clear_17 ⟨by decide, by decide⟩ (fun w1 H locs hp hP hD hS => ?_)
  obtain ⟨g9fd, n9fd, hw9, hg9fd⟩ := hp
  subst hw9
  have hP := hP.sub (ws' := [(f, .inr (6, [.ref (fn), .ref (fd), .int (iZ (0))])), (fn, .inr (9, [.ref (nw), .int (iZ (0))])), (nw, aI cI (rn) (gn)), (fd, .inr (9, [.ref (dw), .int (iZ (((n9fd : Nat) : Int)))])), (dw, aI cI (rd) (g9fd))]) [0, 1, 2, 3, 4] rfl
  have hD := hD.sub (ws' := [(f, .inr (6, [.ref (fn), .ref (fd), .int (iZ (0))])), (fn, .inr (9, [.ref (nw), .int (iZ (0))])), (nw, aI cI (rn) (gn)), (fd, .inr (9, [.ref (dw), .int (iZ (((n9fd : Nat) : Int)))])), (dw, aI cI (rd) (g9fd))]) [0, 1, 2, 3, 4] (by decide) rfl
  exact zr_vret hQ hx hb hr hlk dX6_clear_20 hK hP hD hS (by omega) (by omega) (⟨gn, 0, g9fd, n9fd, rfl, bg_ok0, hg9fd⟩)

set_option maxHeartbeats 4000000 in
set_option maxRecDepth 100000 in
/-- Fraction.assign -/
theorem c_fassign (l : Launch) (D : va_G) (cI cJ cE cF cR : ClassId) (f fn nw fd dw rn rd : Nat) (sg cn cd z y : Int) (gn gd : Nat → Int) (hz : -9223372036854775808 < z ∧ z < 9223372036854775808) (hy : 0 ≤ y ∧ y < 9223372036854775808) (hzn : ((z).natAbs : Int) < bg_p rn) (hyd : y < bg_p rd) (hrn : rn < 2147483648) (hrd : rd < 2147483648) : Cv l D (zty cI cJ cE cF cR) yX6_assign wsX6_assign (zRm 1 24) 0 0 [.ref (f), .long (lZ (z)), .long (lZ (y))] [(f, .inr (6, [.ref (fn), .ref (fd), .int (iZ (sg))])), (fn, .inr (9, [.ref (nw), .int (iZ (cn))])), (nw, aI cI (rn) (gn)), (fd, .inr (9, [.ref (dw), .int (iZ (cd))])), (dw, aI cI (rd) (gd))] (fun w1 => ∃ (sz : Int) (g1 : Nat → Int) (n1 : Nat) (g2 : Nat → Int) (n2 : Nat), w1 = [(f, .inr (6, [.ref (fn), .ref (fd), .int (iZ (sz))])), (fn, .inr (9, [.ref (nw), .int (iZ (((n1 : Nat) : Int)))])), (nw, aI cI (rn) (g1)), (fd, .inr (9, [.ref (dw), .int (iZ (((n2 : Nat) : Int)))])), (dw, aI cI (rd) (g2))] ∧ bg_cmp z 0 sz ∧ bg_ok g1 n1 rn ((z).natAbs : Int) ∧ bg_ok g2 n2 rd y) := by
  unfold Cv
  refine zs (Qc := zQv D _ _) (cc := cX6_assign) (maxL := 5) (ret := none) (by decide) rfl (Nat.le_of_ble_eq_true rfl) ?_
  intro zp ze s zm below meth zc ls A args Q hQ hx hb hr hts hown hlk hml hnm hN hA hK hP hD hS hl
  have q_initialized_RX10 := hts (.initialized RX10) (by decide +kernel)
  have q_static_yX10_signOf := hts (.static yX10_signOf) (by decide +kernel)
  have q_f_RX6_24_Fraction_sign_I := hts (.fieldLink RX6 24 "LimbSolver$Fraction" "sign" "I") (by decide +kernel)
  have hin6 : ∀ w ∈ wsX60, w ∈ wsX6_assign := by decide +kernel
  have q_f_RX6_12_Fraction_num_LWhole := hts (.fieldLink RX6 12 "LimbSolver$Fraction" "num" "LLimbSolver$Whole;") (by decide +kernel)
  have q_methodLink_RX6_39_Lib_MathLoose_abs_long_x := hts (.methodLink RX6 39 Lib.MathLoose.abs_long.x) (by decide +kernel)
  have q_static_Lib_MathLoose_abs_long_x := hts (.static Lib.MathLoose.abs_long.x) (by decide +kernel)
  have q_initialized_java_lang_Math := hts (.initialized "java/lang/Math") (by decide +kernel)
  have q_code_Lib_MathLoose_abs_long_x_Lib_MathLoose_abs_lo := hts (.code Lib.MathLoose.abs_long.x Lib.MathLoose.abs_long.code 2 (some .long)) (by decide +kernel)
  have q_f_RX6_18_Fraction_den_LWhole := hts (.fieldLink RX6 18 "LimbSolver$Fraction" "den" "LLimbSolver$Whole;") (by decide +kernel)
  have hl : lv_has ls 5 [(0, .ref (f)), (1, .long (lZ (z))), (3, .long (lZ (y)))] := hl
  refine lv_aload_n hx hb dX6_assign_0 rfl (lv_at hl 0 rfl) ?_
  refine lv_lload_n hx hb dX6_assign_1 rfl (lv_at hl 1 rfl) ?_
  refine zc_SNi (As := [.long (lZ (z))]) (rest := [.ref (f)]) (wr := [(f, .inr (6, [.ref (fn), .ref (fd), .int (iZ (sg))])), (fn, .inr (9, [.ref (nw), .int (iZ (cn))])), (nw, aI cI (rn) (gn)), (fd, .inr (9, [.ref (dw), .int (iZ (cd))])), (dw, aI cI (rd) (gd))]) ⟨hx, hb, hml, hown, hts⟩ (c_signOf l D cI cJ cE cF cR z ⟨by omega, by omega⟩) ⟨va_cnB 1 hts gX6_assign_X10_signOf_n33 rfl rfl rfl (hN.M 5 rfl) q_initialized_RX10 (by decide +kernel) ⟨Nat.le_of_ble_eq_true rfl, Nat.le_of_ble_eq_true rfl⟩, q_static_yX10_signOf, trivial⟩ hN hK hP hD hS hA [] [0, 1, 2, 3, 4] rfl rfl (by decide) (by decide) (by decide) rfl hl.1 (Nat.le_of_ble_eq_true rfl) dX6_assign_2 ⟨by decide, by decide⟩ (fun sz w1 H locs hz2 hp hP hD hS => ?_)
  obtain ⟨hw9, hsg⟩ := hp
  subst hw9
  have hP := hP.sub (ws' := [(f, .inr (6, [.ref (fn), .ref (fd), .int (iZ (sg))])), (fn, .inr (9, [.ref (nw), .int (iZ (cn))])), (nw, aI cI (rn) (gn)), (fd, .inr (9, [.ref (dw), .int (iZ (cd))])), (dw, aI cI (rd) (gd))]) [0, 1, 2, 3, 4] rfl
  have hD := hD.sub (ws' := [(f, .inr (6, [.ref (fn), .ref (fd), .int (iZ (sg))])), (fn, .inr (9, [.ref (nw), .int (iZ (cn))])), (nw, aI cI (rn) (gn)), (fd, .inr (9, [.ref (dw), .int (iZ (cd))])), (dw, aI cI (rd) (gd))]) [0, 1, 2, 3, 4] (by decide) rfl
  refine va_put (D := D) (ci := 6) (v := .int (iZ (sz))) (ty := tyX6 2) (C := RX6) (T := TX6) (N := 3) hx hb hts hin6 tyX6 tyX6_ok nmX6 hown hK hP hD hS 0 rfl rfl 2 (by decide) q_f_RX6_24_Fraction_sign_I (fun _ h9 => h9) rfl (tyX6_ok 2 (by decide)) rfl rfl (Nat.le_of_ble_eq_true rfl) dX6_assign_5 (fun H locs hP hD hS => ?_)
  have hP : va_P D vwCl [(f, .inr (6, [.ref (fn), .ref (fd), .int (iZ (sz))])), (fn, .inr (9, [.ref (nw), .int (iZ (cn))])), (nw, aI cI (rn) (gn)), (fd, .inr (9, [.ref (dw), .int (iZ (cd))])), (dw, aI cI (rd) (gd))] H := hP
  have hD : va_D A [(f, .inr (6, [.ref (fn), .ref (fd), .int (iZ (sz))])), (fn, .inr (9, [.ref (nw), .int (iZ (cn))])), (nw, aI cI (rn) (gn)), (fd, .inr (9, [.ref (dw), .int (iZ (cd))])), (dw, aI cI (rd) (gd))] := hD
  refine lv_aload_n hx hb dX6_assign_8 rfl (lv_at hl 0 rfl) ?_
  refine va_get (D := D) (ci := 6) (v := .ref (fn)) (C := RX6) (T := TX6) (N := 3) hx hb hts hin6 hown hK hP 0 rfl rfl 0 (by decide) q_f_RX6_12_Fraction_num_LWhole (fun _ h9 => h9) rfl dX6_assign_9 ?_
  refine lv_lload_n hx hb dX6_assign_12 rfl (lv_at hl 1 rfl) ?_
  refine zr_labs hx hb (hml.trans hl.1.symm) hown q_methodLink_RX6_39_Lib_MathLoose_abs_long_x q_static_Lib_MathLoose_abs_long_x q_initialized_java_lang_Math q_code_Lib_MathLoose_abs_long_x_Lib_MathLoose_abs_lo (Nat.le_of_ble_eq_true rfl) (Nat.le_of_ble_eq_true rfl) (Nat.zero_le _) (Nat.zero_le _) ⟨by omega, by omega⟩ dX6_assign_13 ?_
  refine zc_Vv (As := [.long (lZ (((z).natAbs : Int)))]) (rest := []) (wr := [(f, .inr (6, [.ref (fn), .ref (fd), .int (iZ (sz))])), (fd, .inr (9, [.ref (dw), .int (iZ (cd))])), (dw, aI cI (rd) (gd))]) ⟨hx, hb, hml, hown, hts⟩ (c_assign l D cI cJ cE cF cR fn nw rn (cn) gn (((z).natAbs : Int)) ⟨by omega, by omega⟩ hzn hrn) (cwV 1 hts gX6_assign_X9_assign rfl rfl rfl (by decide +kernel) ⟨Nat.le_of_ble_eq_true rfl, Nat.le_of_ble_eq_true rfl⟩) hN hK hP hD hS hA [1, 2] [0, 3, 4] rfl rfl (by decide) (by decide) (by decide) (q0 := 0) (ci := 9) rfl rfl rfl rfl hl.1 (Nat.le_of_ble_eq_true rfl) dX6_assign_16 ⟨by decide, by decide⟩ (fun w1 H locs hp hP hD hS => ?_)
  obtain ⟨g9fn, n9fn, hw9, hg9fn⟩ := hp
  subst hw9
  have hP := hP.sub (ws' := [(f, .inr (6, [.ref (fn), .ref (fd), .int (iZ (sz))])), (fn, .inr (9, [.ref (nw), .int (iZ (((n9fn : Nat) : Int)))])), (nw, aI cI (rn) (g9fn)), (fd, .inr (9, [.ref (dw), .int (iZ (cd))])), (dw, aI cI (rd) (gd))]) [0, 3, 4, 1, 2] rfl
  have hD := hD.sub (ws' := [(f, .inr (6, [.ref (fn), .ref (fd), .int (iZ (sz))])), (fn, .inr (9, [.ref (nw), .int (iZ (((n9fn : Nat) : Int)))])), (nw, aI cI (rn) (g9fn)), (fd, .inr (9, [.ref (dw), .int (iZ (cd))])), (dw, aI cI (rd) (gd))]) [0, 3, 4, 1, 2] (by decide) rfl
  refine lv_aload_n hx hb dX6_assign_19 rfl (lv_at hl 0 rfl) ?_
  refine va_get (D := D) (ci := 6) (v := .ref (fd)) (C := RX6) (T := TX6) (N := 3) hx hb hts hin6 hown hK hP 0 rfl rfl 1 (by decide) q_f_RX6_18_Fraction_den_LWhole (fun _ h9 => h9) rfl dX6_assign_20 ?_
  refine lv_lload_n hx hb dX6_assign_23 rfl (lv_at hl 2 rfl) ?_
  refine zc_Vv (As := [.long (lZ (y))]) (rest := []) (wr := [(f, .inr (6, [.ref (fn), .ref (fd), .int (iZ (sz))])), (fn, .inr (9, [.ref (nw), .int (iZ (((n9fn : Nat) : Int)))])), (nw, aI cI (rn) (g9fn))]) ⟨hx, hb, hml, hown, hts⟩ (c_assign l D cI cJ cE cF cR fd dw rd (cd) gd (y) ⟨by omega, by omega⟩ hyd hrd) (cwV 1 hts gX6_assign_X9_assign rfl rfl rfl (by decide +kernel) ⟨Nat.le_of_ble_eq_true rfl, Nat.le_of_ble_eq_true rfl⟩) hN hK hP hD hS hA [3, 4] [0, 1, 2] rfl rfl (by decide) (by decide) (by decide) (q0 := 0) (ci := 9) rfl rfl rfl rfl hl.1 (Nat.le_of_ble_eq_true rfl) dX6_assign_24 ⟨by decide, by decide⟩ (fun w1 H locs hp hP hD hS => ?_)
  obtain ⟨g9fd, n9fd, hw9, hg9fd⟩ := hp
  subst hw9
  have hP := hP.sub (ws' := [(f, .inr (6, [.ref (fn), .ref (fd), .int (iZ (sz))])), (fn, .inr (9, [.ref (nw), .int (iZ (((n9fn : Nat) : Int)))])), (nw, aI cI (rn) (g9fn)), (fd, .inr (9, [.ref (dw), .int (iZ (((n9fd : Nat) : Int)))])), (dw, aI cI (rd) (g9fd))]) [0, 1, 2, 3, 4] rfl
  have hD := hD.sub (ws' := [(f, .inr (6, [.ref (fn), .ref (fd), .int (iZ (sz))])), (fn, .inr (9, [.ref (nw), .int (iZ (((n9fn : Nat) : Int)))])), (nw, aI cI (rn) (g9fn)), (fd, .inr (9, [.ref (dw), .int (iZ (((n9fd : Nat) : Int)))])), (dw, aI cI (rd) (g9fd))]) [0, 1, 2, 3, 4] (by decide) rfl
  exact zr_vret hQ hx hb hr hlk dX6_assign_27 hK hP hD hS (by omega) (by omega) (⟨sz, g9fn, n9fn, g9fd, n9fd, rfl, hsg, hg9fn, hg9fd⟩)

set_option maxHeartbeats 4000000 in
set_option maxRecDepth 100000 in
/-- Fraction.limbCount -/
theorem c_flimbCount (l : Launch) (D : va_G) (cI cJ cE cF cR : ClassId) (f fn nw fd dw rn rd nn nd : Nat) (sg vn vd : Int) (gn gd : Nat → Int) (h1 : bg_ok gn nn rn vn) (h2 : bg_ok gd nd rd vd) (hrn : rn ≤ 1000) (hrd : rd ≤ 1000) : Ci l D (zty cI cJ cE cF cR) yX6_limbCount wsX6_limbCount (zRm 2 44) 0 0 [.ref (f)] [(f, .inr (6, [.ref (fn), .ref (fd), .int (iZ (sg))])), (fn, .inr (9, [.ref (nw), .int (iZ (((nn : Nat) : Int)))])), (nw, aI cI (rn) (gn)), (fd, .inr (9, [.ref (dw), .int (iZ (((nd : Nat) : Int)))])), (dw, aI cI (rd) (gd))] (fun r w1 => w1 = [(f, .inr (6, [.ref (fn), .ref (fd), .int (iZ (sg))])), (fn, .inr (9, [.ref (nw), .int (iZ (((nn : Nat) : Int)))])), (nw, aI cI (rn) (gn)), (fd, .inr (9, [.ref (dw), .int (iZ (((nd : Nat) : Int)))])), (dw, aI cI (rd) (gd))] ∧ ∃ x1 x2 : Nat, r = (x1 : Int) + (x2 : Int) ∧ bg_lc vn x1 ∧ bg_lc vd x2) := by
  unfold Ci
  refine zs (Qc := zQi D _ _) (cc := cX6_limbCount) (maxL := 1) (ret := (some .int)) (by decide) rfl (Nat.le_of_ble_eq_true rfl) ?_
  intro zp ze s zm below meth zc ls A args Q hQ hx hb hr hts hown hlk hml hnm hN hA hK hP hD hS hl
  have q_f_RX6_12_Fraction_num_LWhole := hts (.fieldLink RX6 12 "LimbSolver$Fraction" "num" "LLimbSolver$Whole;") (by decide +kernel)
  have hin6 : ∀ w ∈ wsX60, w ∈ wsX6_limbCount := by decide +kernel
  have q_f_RX6_18_Fraction_den_LWhole := hts (.fieldLink RX6 18 "LimbSolver$Fraction" "den" "LLimbSolver$Whole;") (by decide +kernel)
  have hl : lv_has ls 1 [(0, .ref (f))] := hl
  have hr1 := h1.1
  have hr2 := h2.1
  refine lv_aload_n hx hb dX6_limbCount_0 rfl (lv_at hl 0 rfl) ?_
  refine va_get (D := D) (ci := 6) (v := .ref (fn)) (C := RX6) (T := TX6) (N := 3) hx hb hts hin6 hown hK hP 0 rfl rfl 0 (by decide) q_f_RX6_12_Fraction_num_LWhole (fun _ h9 => h9) rfl dX6_limbCount_1 ?_
  refine zc_Vi (As := []) (rest := []) (wr := [(f, .inr (6, [.ref (fn), .ref (fd), .int (iZ (sg))])), (fd, .inr (9, [.ref (dw), .int (iZ (((nd : Nat) : Int)))])), (dw, aI cI (rd) (gd))]) ⟨hx, hb, hml, hown, hts⟩ (c_limbCount l D cI cJ cE cF cR fn nw rn nn gn vn h1 hrn) (cwV 0 hts gX6_limbCount_X9_limbCount rfl rfl rfl (by decide +kernel) ⟨Nat.le_of_ble_eq_true rfl, Nat.le_of_ble_eq_true rfl⟩) hN hK hP hD hS hA [1, 2] [0, 3, 4] rfl rfl (by decide) (by decide) (by decide) (q0 := 0) (ci := 9) rfl rfl rfl rfl hl.1 (Nat.le_of_ble_eq_true rfl) dX6_limbCount_4 ⟨by decide, by decide⟩ (fun z4 w1 H locs hz4 hp hP hD hS => ?_)
  obtain ⟨hw9, x1, hx0, hx1⟩ := hp
  subst hw9
  subst hx0
  have hbx1 := bg_lc_le h1 hx1
  have hP := hP.sub (ws' := [(f, .inr (6, [.ref (fn), .ref (fd), .int (iZ (sg))])), (fn, .inr (9, [.ref (nw), .int (iZ (((nn : Nat) : Int)))])), (nw, aI cI (rn) (gn)), (fd, .inr (9, [.ref (dw), .int (iZ (((nd : Nat) : Int)))])), (dw, aI cI (rd) (gd))]) [0, 3, 4, 1, 2] rfl
  have hD := hD.sub (ws' := [(f, .inr (6, [.ref (fn), .ref (fd), .int (iZ (sg))])), (fn, .inr (9, [.ref (nw), .int (iZ (((nn : Nat) : Int)))])), (nw, aI cI (rn) (gn)), (fd, .inr (9, [.ref (dw), .int (iZ (((nd : Nat) : Int)))])), (dw, aI cI (rd) (gd))]) [0, 3, 4, 1, 2] (by decide) rfl
  refine lv_aload_n hx hb dX6_limbCount_7 rfl (lv_at hl 0 rfl) ?_
  refine va_get (D := D) (ci := 6) (v := .ref (fd)) (C := RX6) (T := TX6) (N := 3) hx hb hts hin6 hown hK hP 0 rfl rfl 1 (by decide) q_f_RX6_18_Fraction_den_LWhole (fun _ h9 => h9) rfl dX6_limbCount_8 ?_
  refine zc_Vi (As := []) (rest := [.int (iZ (((x1 : Nat) : Int)))]) (wr := [(f, .inr (6, [.ref (fn), .ref (fd), .int (iZ (sg))])), (fn, .inr (9, [.ref (nw), .int (iZ (((nn : Nat) : Int)))])), (nw, aI cI (rn) (gn))]) ⟨hx, hb, hml, hown, hts⟩ (c_limbCount l D cI cJ cE cF cR fd dw rd nd gd vd h2 hrd) (cwV 0 hts gX6_limbCount_X9_limbCount rfl rfl rfl (by decide +kernel) ⟨Nat.le_of_ble_eq_true rfl, Nat.le_of_ble_eq_true rfl⟩) hN hK hP hD hS hA [3, 4] [0, 1, 2] rfl rfl (by decide) (by decide) (by decide) (q0 := 0) (ci := 9) rfl rfl rfl rfl hl.1 (Nat.le_of_ble_eq_true rfl) dX6_limbCount_11 ⟨by decide, by decide⟩ (fun z11 w1 H locs hz11 hp hP hD hS => ?_)
  obtain ⟨hw9, x2, hx0, hx2⟩ := hp
  subst hw9
  subst hx0
  have hbx2 := bg_lc_le h2 hx2
  have hP := hP.sub (ws' := [(f, .inr (6, [.ref (fn), .ref (fd), .int (iZ (sg))])), (fn, .inr (9, [.ref (nw), .int (iZ (((nn : Nat) : Int)))])), (nw, aI cI (rn) (gn)), (fd, .inr (9, [.ref (dw), .int (iZ (((nd : Nat) : Int)))])), (dw, aI cI (rd) (gd))]) [0, 1, 2, 3, 4] rfl
  have hD := hD.sub (ws' := [(f, .inr (6, [.ref (fn), .ref (fd), .int (iZ (sg))])), (fn, .inr (9, [.ref (nw), .int (iZ (((nn : Nat) : Int)))])), (nw, aI cI (rn) (gn)), (fd, .inr (9, [.ref (dw), .int (iZ (((nd : Nat) : Int)))])), (dw, aI cI (rd) (gd))]) [0, 1, 2, 3, 4] (by decide) rfl
  refine zr_iadd hx hb dX6_limbCount_14 ?_
  exact zr_iret hQ hx hb hr hlk dX6_limbCount_15 hK hP hD hS (by omega) (by omega) ⟨by omega, by omega⟩ (⟨rfl, x1, x2, rfl, hx1, hx2⟩)

set_option maxHeartbeats 4000000 in
set_option maxRecDepth 100000 in
/-- Fraction.tell -/
theorem c_ftell (l : Launch) (D : va_G) (cI cJ cE cF cR : ClassId) (f fn nw fd dw rn rd nn nd : Nat) (sg vn vd wh z : Int) (gn gd : Nat → Int) (h1 : bg_ok gn nn rn vn) (h2 : bg_ok gd nd rd vd) (hrn : rn ≤ 1000) (hrd : rd ≤ 1000) (hsg : iR sg) (hwh : iR wh) (hz0 : iR z) : Ci l D (zty cI cJ cE cF cR) yX6_tell wsX6_tell (zRm 3 69) 0 0 [.ref (f), .int (iZ (wh)), .int (iZ (z))] [(f, .inr (6, [.ref (fn), .ref (fd), .int (iZ (sg))])), (fn, .inr (9, [.ref (nw), .int (iZ (((nn : Nat) : Int)))])), (nw, aI cI (rn) (gn)), (fd, .inr (9, [.ref (dw), .int (iZ (((nd : Nat) : Int)))])), (dw, aI cI (rd) (gd))] (fun r w1 => w1 = [(f, .inr (6, [.ref (fn), .ref (fd), .int (iZ (sg))])), (fn, .inr (9, [.ref (nw), .int (iZ (((nn : Nat) : Int)))])), (nw, aI cI (rn) (gn)), (fd, .inr (9, [.ref (dw), .int (iZ (((nd : Nat) : Int)))])), (dw, aI cI (rd) (gd))] ∧ bg_tl sg vn vd wh z r) := by
  unfold Ci
  refine zs (Qc := zQi D _ _) (cc := cX6_tell) (maxL := 4) (ret := (some .int)) (by decide) rfl (Nat.le_of_ble_eq_true rfl) ?_
  intro zp ze s zm below meth zc ls A args Q hQ hx hb hr hts hown hlk hml hnm hN hA hK hP hD hS hl
  have q_f_RX6_18_Fraction_den_LWhole := hts (.fieldLink RX6 18 "LimbSolver$Fraction" "den" "LLimbSolver$Whole;") (by decide +kernel)
  have hin6 : ∀ w ∈ wsX60, w ∈ wsX6_tell := by decide +kernel
  have q_f_RX6_12_Fraction_num_LWhole := hts (.fieldLink RX6 12 "LimbSolver$Fraction" "num" "LLimbSolver$Whole;") (by decide +kernel)
  have q_f_RX6_24_Fraction_sign_I := hts (.fieldLink RX6 24 "LimbSolver$Fraction" "sign" "I") (by decide +kernel)
  have hl : lv_has ls 4 [(0, .ref (f)), (1, .int (iZ (wh))), (2, .int (iZ (z)))] := hl
  have hr1 := h1.1
  have hr2 := h2.1
  refine lv_iload_n hx hb dX6_tell_0 rfl (lv_at hl 1 rfl) ?_
  refine zr_if_ne hx hb 9 ⟨by omega, by omega⟩ dX6_tell_1 (by decide) (fun h_1 => ?_) (fun h_1 => ?_)
  · refine lv_iload_n hx hb dX6_tell_9 rfl (lv_at hl 1 rfl) ?_
    refine lv_iconst (v := iZ 1) hx hb dX6_tell_10 rfl ?_
    refine zr_icmp_ne hx hb 21 ⟨by omega, by omega⟩ ⟨by omega, by omega⟩ dX6_tell_11 (by decide) (fun h_11 => ?_) (fun h_11 => ?_)
    · refine lv_aload_n hx hb dX6_tell_21 rfl (lv_at hl 0 rfl) ?_
      refine va_get (D := D) (ci := 6) (v := .ref (fd)) (C := RX6) (T := TX6) (N := 3) hx hb hts hin6 hown hK hP 0 rfl rfl 1 (by decide) q_f_RX6_18_Fraction_den_LWhole (fun _ h9 => h9) rfl dX6_tell_22 ?_
      refine lv_astore_n (lv' := [(3, .ref (fd)), (0, .ref (f)), (1, .int (iZ (wh))), (2, .int (iZ (z)))]) hx hb dX6_tell_25 rfl hl (by decide) rfl (fun ls hl => ?_)
      refine lv_iload_n hx hb dX6_tell_26 rfl (lv_at hl 3 rfl) ?_
      refine lv_iconst (v := iZ (-1)) hx hb dX6_tell_27 rfl ?_
      refine zr_icmp_ne hx hb 38 ⟨by omega, by omega⟩ ⟨by omega, by omega⟩ dX6_tell_28 (by decide) (fun h_28 => ?_) (fun h_28 => ?_)
      · refine lv_aload_n hx hb dX6_tell_38 rfl (lv_at hl 0 rfl) ?_
        refine lv_iload_n hx hb dX6_tell_39 rfl (lv_at hl 3 rfl) ?_
        refine zc_Vi (As := [.int (iZ (z))]) (rest := []) (wr := [(f, .inr (6, [.ref (fn), .ref (fd), .int (iZ (sg))])), (fn, .inr (9, [.ref (nw), .int (iZ (((nn : Nat) : Int)))])), (nw, aI cI (rn) (gn))]) ⟨hx, hb, hml, hown, hts⟩ (c_limb l D cI cJ cE cF cR fd dw rd nd gd vd z hz0 h2 hrd) (cwV 1 hts gX6_tell_X9_limb rfl rfl rfl (by decide +kernel) ⟨Nat.le_of_ble_eq_true rfl, Nat.le_of_ble_eq_true rfl⟩) hN hK hP hD hS hA [3, 4] [0, 1, 2] rfl rfl (by decide) (by decide) (by decide) (q0 := 0) (ci := 9) rfl rfl rfl rfl hl.1 (Nat.le_of_ble_eq_true rfl) dX6_tell_40 ⟨by decide, by decide⟩ (fun rl w1 H locs hz40 hp hP hD hS => ?_)
        obtain ⟨hw9, hlm⟩ := hp
        subst hw9
        have hP := hP.sub (ws' := [(f, .inr (6, [.ref (fn), .ref (fd), .int (iZ (sg))])), (fn, .inr (9, [.ref (nw), .int (iZ (((nn : Nat) : Int)))])), (nw, aI cI (rn) (gn)), (fd, .inr (9, [.ref (dw), .int (iZ (((nd : Nat) : Int)))])), (dw, aI cI (rd) (gd))]) [0, 1, 2, 3, 4] rfl
        have hD := hD.sub (ws' := [(f, .inr (6, [.ref (fn), .ref (fd), .int (iZ (sg))])), (fn, .inr (9, [.ref (nw), .int (iZ (((nn : Nat) : Int)))])), (nw, aI cI (rn) (gn)), (fd, .inr (9, [.ref (dw), .int (iZ (((nd : Nat) : Int)))])), (dw, aI cI (rd) (gd))]) [0, 1, 2, 3, 4] (by decide) rfl
        exact zr_iret hQ hx hb hr hlk dX6_tell_43 hK hP hD hS (by omega) (by omega) (by first | assumption | exact ⟨by omega, by omega⟩) (⟨rfl, Or.inr ⟨by omega, Or.inr ⟨by omega, by rw [if_neg (by omega)]; exact hlm⟩⟩⟩)
      · refine lv_aload_n hx hb dX6_tell_31 rfl (lv_at hl 0 rfl) ?_
        refine zc_Vi (As := []) (rest := []) (wr := [(f, .inr (6, [.ref (fn), .ref (fd), .int (iZ (sg))])), (fn, .inr (9, [.ref (nw), .int (iZ (((nn : Nat) : Int)))])), (nw, aI cI (rn) (gn))]) ⟨hx, hb, hml, hown, hts⟩ (c_limbCount l D cI cJ cE cF cR fd dw rd nd gd vd h2 hrd) (cwV 0 hts gX6_tell_X9_limbCount rfl rfl rfl (by decide +kernel) ⟨Nat.le_of_ble_eq_true rfl, Nat.le_of_ble_eq_true rfl⟩) hN hK hP hD hS hA [3, 4] [0, 1, 2] rfl rfl (by decide) (by decide) (by decide) (q0 := 0) (ci := 9) rfl rfl rfl rfl hl.1 (Nat.le_of_ble_eq_true rfl) dX6_tell_32 ⟨by decide, by decide⟩ (fun z32 w1 H locs hz32 hp hP hD hS => ?_)
        obtain ⟨hw9, x1, hx0, hx1⟩ := hp
        subst hw9
        subst hx0
        have hbx1 := bg_lc_le h2 hx1
        have hP := hP.sub (ws' := [(f, .inr (6, [.ref (fn), .ref (fd), .int (iZ (sg))])), (fn, .inr (9, [.ref (nw), .int (iZ (((nn : Nat) : Int)))])), (nw, aI cI (rn) (gn)), (fd, .inr (9, [.ref (dw), .int (iZ (((nd : Nat) : Int)))])), (dw, aI cI (rd) (gd))]) [0, 1, 2, 3, 4] rfl
        have hD := hD.sub (ws' := [(f, .inr (6, [.ref (fn), .ref (fd), .int (iZ (sg))])), (fn, .inr (9, [.ref (nw), .int (iZ (((nn : Nat) : Int)))])), (nw, aI cI (rn) (gn)), (fd, .inr (9, [.ref (dw), .int (iZ (((nd : Nat) : Int)))])), (dw, aI cI (rd) (gd))]) [0, 1, 2, 3, 4] (by decide) rfl
        refine lv_goto (tgt := 43) hx hb dX6_tell_35 (by decide) ?_
        exact zr_iret hQ hx hb hr hlk dX6_tell_43 hK hP hD hS (by omega) (by omega) (by first | assumption | exact ⟨by omega, by omega⟩) (⟨rfl, Or.inr ⟨by omega, Or.inl ⟨by omega, x1, rfl, by rw [if_neg (by omega)]; exact hx1⟩⟩⟩)
    · refine lv_aload_n hx hb dX6_tell_14 rfl (lv_at hl 0 rfl) ?_
      refine va_get (D := D) (ci := 6) (v := .ref (fn)) (C := RX6) (T := TX6) (N := 3) hx hb hts hin6 hown hK hP 0 rfl rfl 0 (by decide) q_f_RX6_12_Fraction_num_LWhole (fun _ h9 => h9) rfl dX6_tell_15 ?_
      refine lv_goto (tgt := 25) hx hb dX6_tell_18 (by decide) ?_
      refine lv_astore_n (lv' := [(3, .ref (fn)), (0, .ref (f)), (1, .int (iZ (wh))), (2, .int (iZ (z)))]) hx hb dX6_tell_25 rfl hl (by decide) rfl (fun ls hl => ?_)
      refine lv_iload_n hx hb dX6_tell_26 rfl (lv_at hl 3 rfl) ?_
      refine lv_iconst (v := iZ (-1)) hx hb dX6_tell_27 rfl ?_
      refine zr_icmp_ne hx hb 38 ⟨by omega, by omega⟩ ⟨by omega, by omega⟩ dX6_tell_28 (by decide) (fun h_28 => ?_) (fun h_28 => ?_)
      · refine lv_aload_n hx hb dX6_tell_38 rfl (lv_at hl 0 rfl) ?_
        refine lv_iload_n hx hb dX6_tell_39 rfl (lv_at hl 3 rfl) ?_
        refine zc_Vi (As := [.int (iZ (z))]) (rest := []) (wr := [(f, .inr (6, [.ref (fn), .ref (fd), .int (iZ (sg))])), (fd, .inr (9, [.ref (dw), .int (iZ (((nd : Nat) : Int)))])), (dw, aI cI (rd) (gd))]) ⟨hx, hb, hml, hown, hts⟩ (c_limb l D cI cJ cE cF cR fn nw rn nn gn vn z hz0 h1 hrn) (cwV 1 hts gX6_tell_X9_limb rfl rfl rfl (by decide +kernel) ⟨Nat.le_of_ble_eq_true rfl, Nat.le_of_ble_eq_true rfl⟩) hN hK hP hD hS hA [1, 2] [0, 3, 4] rfl rfl (by decide) (by decide) (by decide) (q0 := 0) (ci := 9) rfl rfl rfl rfl hl.1 (Nat.le_of_ble_eq_true rfl) dX6_tell_40 ⟨by decide, by decide⟩ (fun rl w1 H locs hz40 hp hP hD hS => ?_)
        obtain ⟨hw9, hlm⟩ := hp
        subst hw9
        have hP := hP.sub (ws' := [(f, .inr (6, [.ref (fn), .ref (fd), .int (iZ (sg))])), (fn, .inr (9, [.ref (nw), .int (iZ (((nn : Nat) : Int)))])), (nw, aI cI (rn) (gn)), (fd, .inr (9, [.ref (dw), .int (iZ (((nd : Nat) : Int)))])), (dw, aI cI (rd) (gd))]) [0, 3, 4, 1, 2] rfl
        have hD := hD.sub (ws' := [(f, .inr (6, [.ref (fn), .ref (fd), .int (iZ (sg))])), (fn, .inr (9, [.ref (nw), .int (iZ (((nn : Nat) : Int)))])), (nw, aI cI (rn) (gn)), (fd, .inr (9, [.ref (dw), .int (iZ (((nd : Nat) : Int)))])), (dw, aI cI (rd) (gd))]) [0, 3, 4, 1, 2] (by decide) rfl
        exact zr_iret hQ hx hb hr hlk dX6_tell_43 hK hP hD hS (by omega) (by omega) (by first | assumption | exact ⟨by omega, by omega⟩) (⟨rfl, Or.inr ⟨by omega, Or.inr ⟨by omega, by rw [if_pos (by omega)]; exact hlm⟩⟩⟩)
      · refine lv_aload_n hx hb dX6_tell_31 rfl (lv_at hl 0 rfl) ?_
        refine zc_Vi (As := []) (rest := []) (wr := [(f, .inr (6, [.ref (fn), .ref (fd), .int (iZ (sg))])), (fd, .inr (9, [.ref (dw), .int (iZ (((nd : Nat) : Int)))])), (dw, aI cI (rd) (gd))]) ⟨hx, hb, hml, hown, hts⟩ (c_limbCount l D cI cJ cE cF cR fn nw rn nn gn vn h1 hrn) (cwV 0 hts gX6_tell_X9_limbCount rfl rfl rfl (by decide +kernel) ⟨Nat.le_of_ble_eq_true rfl, Nat.le_of_ble_eq_true rfl⟩) hN hK hP hD hS hA [1, 2] [0, 3, 4] rfl rfl (by decide) (by decide) (by decide) (q0 := 0) (ci := 9) rfl rfl rfl rfl hl.1 (Nat.le_of_ble_eq_true rfl) dX6_tell_32 ⟨by decide, by decide⟩ (fun z32 w1 H locs hz32 hp hP hD hS => ?_)
        obtain ⟨hw9, x1, hx0, hx1⟩ := hp
        subst hw9
        subst hx0
        have hbx1 := bg_lc_le h1 hx1
        have hP := hP.sub (ws' := [(f, .inr (6, [.ref (fn), .ref (fd), .int (iZ (sg))])), (fn, .inr (9, [.ref (nw), .int (iZ (((nn : Nat) : Int)))])), (nw, aI cI (rn) (gn)), (fd, .inr (9, [.ref (dw), .int (iZ (((nd : Nat) : Int)))])), (dw, aI cI (rd) (gd))]) [0, 3, 4, 1, 2] rfl
        have hD := hD.sub (ws' := [(f, .inr (6, [.ref (fn), .ref (fd), .int (iZ (sg))])), (fn, .inr (9, [.ref (nw), .int (iZ (((nn : Nat) : Int)))])), (nw, aI cI (rn) (gn)), (fd, .inr (9, [.ref (dw), .int (iZ (((nd : Nat) : Int)))])), (dw, aI cI (rd) (gd))]) [0, 3, 4, 1, 2] (by decide) rfl
        refine lv_goto (tgt := 43) hx hb dX6_tell_35 (by decide) ?_
        exact zr_iret hQ hx hb hr hlk dX6_tell_43 hK hP hD hS (by omega) (by omega) (by first | assumption | exact ⟨by omega, by omega⟩) (⟨rfl, Or.inr ⟨by omega, Or.inl ⟨by omega, x1, rfl, by rw [if_pos (by omega)]; exact hx1⟩⟩⟩)
  · refine lv_aload_n hx hb dX6_tell_4 rfl (lv_at hl 0 rfl) ?_
    refine va_get (D := D) (ci := 6) (v := .int (iZ (sg))) (C := RX6) (T := TX6) (N := 3) hx hb hts hin6 hown hK hP 0 rfl rfl 2 (by decide) q_f_RX6_24_Fraction_sign_I (fun _ h9 => h9) rfl dX6_tell_5 ?_
    exact zr_iret hQ hx hb hr hlk dX6_tell_8 hK hP hD hS (by omega) (by omega) hsg (⟨rfl, Or.inl ⟨by omega, rfl⟩⟩)
