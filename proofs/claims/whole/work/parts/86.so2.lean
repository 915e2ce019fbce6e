set_option maxHeartbeats 4000000 in
set_option maxRecDepth 100000 in
/-- LimbSolver.pivot -/
theorem p_pivot (l : Launch) (D : va_G) (cI cJ cE cF cR : ClassId) (hst : l.stackTraces = false) (NP : Nat) (ad : Nat → Nat) (G : Nat → va_E) (y1 : Int) (V : Nat → Rat) (n : Nat) (wd el : Int) (hC9 : pCs cI cJ cE cF cR NP ad G V n wd el) (hNP : 480 ≤ NP) (hy1 : iR y1) : Xi l D (zty cI cJ cE cF cR) yX10_pivot wsX10_pivot ({ frames := 6, cells := 1, slots := 6, locals := 130 } : Room) 1 6 [.ref (ad 1), .int (iZ (y1))] (pw NP ad G) (fun z9 w1 => ∃ G1 : Nat → va_E, w1 = pw NP ad G1 ∧ ¬ (y1 < 0 ∨ (n : Int) ≤ y1) ∧ el = 1 ∧ z9 = peP (pe V n n) y1.toNat ∧ ∀ i9 : Nat, G1 i9 = G i9) (fun E => (E = "java/lang/IndexOutOfBoundsException" ∧ (y1 < 0 ∨ (n : Int) ≤ y1)) ∨ (E = "java/lang/IllegalStateException" ∧ ¬ (y1 < 0 ∨ (n : Int) ≤ y1) ∧ el = 0)) := by
  unfold Xi
  refine zsX (Qc := zQi D _ _) (cc := cX10_pivot) (maxL := 2) (ret := (some .int)) (by decide) rfl (Nat.le_of_ble_eq_true rfl) ?_
  intro zp ze s zm below meth zc ls A args Q hQ hx hb hr hts hown hlk hml hnm hN hX9 hno hA hK hP hD hS hl
  have q_f_RX10_12_equations_LEquations := hts (.fieldLink RX10 12 "LimbSolver" "equations" "LLimbSolver$Equations;") (by decide +kernel)
  have hin10 : ∀ w ∈ wsX100, w ∈ wsX10_pivot := by decide +kernel
  have q_f_RX10_43_eliminated_Z := hts (.fieldLink RX10 43 "LimbSolver" "eliminated" "Z") (by decide +kernel)
  have q_f_RX10_19_work_LElimination := hts (.fieldLink RX10 19 "LimbSolver" "work" "LLimbSolver$Elimination;") (by decide +kernel)
  have hin2 : ∀ w ∈ wsX20, w ∈ wsX10_pivot := by decide +kernel
  have q_classLink_RX10_64_java_lang_IndexOutOfBoundsExcept := hts (.classLink RX10 64 "java/lang/IndexOutOfBoundsException") (by decide +kernel)
  have q_initialized_java_lang_IndexOutOfBoundsException := hts (.initialized "java/lang/IndexOutOfBoundsException") (by decide +kernel)
  have q_classLink_RX10_98_java_lang_IllegalStateException := hts (.classLink RX10 98 "java/lang/IllegalStateException") (by decide +kernel)
  have q_initialized_java_lang_IllegalStateException := hts (.initialized "java/lang/IllegalStateException") (by decide +kernel)
  have hl : lv_has ls 2 [(0, .ref (ad 1)), (1, .int (iZ (y1)))] := hl
  obtain ⟨hso, ⟨h1n, hn, hT⟩, hQ9, ⟨hsh, hre, hsq⟩, ρ, PR, ⟨hst9, hwk, hHb, hpr, L8, n8, tn8, pv8, ml8, sv8, hel8⟩, hrun⟩ := id hC9
  have hel01 : el = 0 ∨ el = 1 := by rcases hrun with ⟨_, q⟩ | ⟨_, q, _⟩; exact Or.inl q; exact q
  have hy11 := hy1.1
  have hy12 := hy1.2
  by_cases hel1 : el = 1
  · have hrn : pRn cI NP ad G ρ PR n V := by rcases hrun with ⟨_, q⟩ | ⟨_, _, q⟩; omega; exact q
    obtain ⟨L9, rl, hel9, hPR, hRw, hL, hL9, hun, hvo⟩ := hrn
    have hVn := pe_ok hT h1n hn n (Nat.le_refl n)
    have hrN := hVn.1.2.1
    refine lv_aload_n hx hb dX10_pivot_0 rfl (lv_at hl 0 rfl) ?_
    refine va_get (D := D) (ci := 10) (v := .ref (ad 2)) (C := RX10) (T := TX10) (N := 6) hx hb hts hin10 hown hK hP (1) (pw_at (by omega) (hso)) rfl 0 (by decide) q_f_RX10_12_equations_LEquations (fun _ h9 => h9) rfl dX10_pivot_1 ?_
    refine lv_iload_n hx hb dX10_pivot_4 rfl (lv_at hl 1 rfl) ?_
    refine zc_Vi (As := [.int (iZ (y1))]) (rest := []) (wr := []) ⟨hx, hb, hml, hown, hts⟩ (p_hasRow l D cI cJ cE cF cR NP ad G n V hQ9 y1 hy1 hn (by omega)) (cwV 1 hts gX10_pivot_X4_hasRow rfl rfl rfl (by decide +kernel) ⟨Nat.le_of_ble_eq_true rfl, Nat.le_of_ble_eq_true rfl⟩) hN hK hP hD hS hA (List.range NP) [] (pw_all _ _ _) rfl (pw_nd _) rfl (fun _ h9 => nomatch h9) (q0 := 2) (ci := 4) rfl rfl (pw_at (by omega) (hQ9.1)) rfl hl.1 (Nat.le_of_ble_eq_true rfl) dX10_pivot_5 ⟨by decide, by decide⟩ (fun q5 w1 H locs hz5 hp hP hD hS => ?_)
    obtain ⟨G9, rfl, hr0, ho9⟩ := hp
    obtain rfl : G = G9 := (funext ho9).symm
    have hh5 : ((0 ≤ y1 ∧ y1 < (n : Int)) ∧ q5 = 1) ∨ (¬ (0 ≤ y1 ∧ y1 < (n : Int)) ∧ q5 = 0) := by rw [hr0]; by_cases w : (0 ≤ y1 ∧ y1 < (n : Int)); (rw [if_pos w]; exact Or.inl ⟨w, rfl⟩); (rw [if_neg w]; exact Or.inr ⟨w, rfl⟩)
    have hP : va_P D vwCl (pw NP ad G) H := hP
    have hD : va_D A (pw NP ad G) := hD
    refine zr_if_ne hx hb 21 ⟨by omega, by omega⟩ dX10_pivot_8 (by decide) (fun h_8 => ?_) (fun h_8 => ?_)
    · refine lv_aload_n hx hb dX10_pivot_21 rfl (lv_at hl 0 rfl) ?_
      refine va_get (D := D) (ci := 10) (v := .int (iZ (el))) (C := RX10) (T := TX10) (N := 6) hx hb hts hin10 hown hK hP (1) (pw_at (by omega) (hso)) rfl 5 (by decide) q_f_RX10_43_eliminated_Z (fun _ h9 => h9) rfl dX10_pivot_22 ?_
      refine zr_if_ne hx hb 38 ⟨by omega, by omega⟩ dX10_pivot_25 (by decide) (fun h_25 => ?_) (fun h_25 => ?_)
      · have hpvr : iR (peP (pe V n n) y1.toNat) := by rcases pe_x_b hT hn hVn (j := y1.toNat) (by omega) with ⟨q1, _⟩ | ⟨i, q0, q1, _⟩ <;> rw [q1] <;> first | decide | exact ⟨by omega, by omega⟩
        refine lv_aload_n hx hb dX10_pivot_38 rfl (lv_at hl 0 rfl) ?_
        refine va_get (D := D) (ci := 10) (v := .ref (ad 5)) (C := RX10) (T := TX10) (N := 6) hx hb hts hin10 hown hK hP (1) (pw_at (by omega) (hso)) rfl 1 (by decide) q_f_RX10_19_work_LElimination (fun _ h9 => h9) rfl dX10_pivot_39 ?_
        refine va_getN (D := D) (ci := 2) (v := .ref (ad 35)) (C := RX2) (T := TX2) (N := 17) hx hb hts hin2 hown hK hP (5) (pw_at (by omega) (hel9)) rfl 3 (by decide) (hN.F 23 rfl) (fun _ h9 => h9) rfl dX10_pivot_42 ?_
        refine lv_iload_n hx hb dX10_pivot_45 rfl (lv_at hl 1 rfl) ?_
        refine zr_iald hx hb hK hP (35) 0 (pw_at (by omega) (hpr)) rfl (y1.toNat) (by omega) (by omega) (by omega) dX10_pivot_46 ?_
        refine zr_eqi (peP (pe V n n) y1.toNat) (hPR _ (by omega)) ?_
        rw [hQ]
        exact vx_ret (zr_iret rfl hx hb hr hlk dX10_pivot_47 hK hP hD hS (by omega) (by omega) hpvr (⟨G, rfl, by omega, hel1, rfl, fun _ => rfl⟩))
      · exfalso; omega
    · exact zr_throw (text := "there is no such column") hQ hx hb hst hown (by decide) q_classLink_RX10_64_java_lang_IndexOutOfBoundsExcept q_initialized_java_lang_IndexOutOfBoundsException hX9 (by decide) (fun w9 h9 => hts w9 (by unfold wsX10_pivot; exact List.mem_cons_of_mem _ (List.mem_append_left _ (List.mem_append_right _ h9)))) (by decide +kernel) (by decide +kernel) hK hP hD hS (hl.1.trans hml.symm) dX10_pivot_11 dX10_pivot_14 dX10_pivot_15 dX10_pivot_17 dX10_pivot_20 hno (by decide) (Nat.le_of_ble_eq_true rfl) (by decide) (by decide) hlk (Or.inl ⟨rfl, by omega⟩) (by decide) (by decide)
  · refine lv_aload_n hx hb dX10_pivot_0 rfl (lv_at hl 0 rfl) ?_
    refine va_get (D := D) (ci := 10) (v := .ref (ad 2)) (C := RX10) (T := TX10) (N := 6) hx hb hts hin10 hown hK hP (1) (pw_at (by omega) (hso)) rfl 0 (by decide) q_f_RX10_12_equations_LEquations (fun _ h9 => h9) rfl dX10_pivot_1 ?_
    refine lv_iload_n hx hb dX10_pivot_4 rfl (lv_at hl 1 rfl) ?_
    refine zc_Vi (As := [.int (iZ (y1))]) (rest := []) (wr := []) ⟨hx, hb, hml, hown, hts⟩ (p_hasRow l D cI cJ cE cF cR NP ad G n V hQ9 y1 hy1 hn (by omega)) (cwV 1 hts gX10_pivot_X4_hasRow rfl rfl rfl (by decide +kernel) ⟨Nat.le_of_ble_eq_true rfl, Nat.le_of_ble_eq_true rfl⟩) hN hK hP hD hS hA (List.range NP) [] (pw_all _ _ _) rfl (pw_nd _) rfl (fun _ h9 => nomatch h9) (q0 := 2) (ci := 4) rfl rfl (pw_at (by omega) (hQ9.1)) rfl hl.1 (Nat.le_of_ble_eq_true rfl) dX10_pivot_5 ⟨by decide, by decide⟩ (fun q5 w1 H locs hz5 hp hP hD hS => ?_)
    obtain ⟨G9, rfl, hr0, ho9⟩ := hp
    obtain rfl : G = G9 := (funext ho9).symm
    have hh5 : ((0 ≤ y1 ∧ y1 < (n : Int)) ∧ q5 = 1) ∨ (¬ (0 ≤ y1 ∧ y1 < (n : Int)) ∧ q5 = 0) := by rw [hr0]; by_cases w : (0 ≤ y1 ∧ y1 < (n : Int)); (rw [if_pos w]; exact Or.inl ⟨w, rfl⟩); (rw [if_neg w]; exact Or.inr ⟨w, rfl⟩)
    have hP : va_P D vwCl (pw NP ad G) H := hP
    have hD : va_D A (pw NP ad G) := hD
    refine zr_if_ne hx hb 21 ⟨by omega, by omega⟩ dX10_pivot_8 (by decide) (fun h_8 => ?_) (fun h_8 => ?_)
    · refine lv_aload_n hx hb dX10_pivot_21 rfl (lv_at hl 0 rfl) ?_
      refine va_get (D := D) (ci := 10) (v := .int (iZ (el))) (C := RX10) (T := TX10) (N := 6) hx hb hts hin10 hown hK hP (1) (pw_at (by omega) (hso)) rfl 5 (by decide) q_f_RX10_43_eliminated_Z (fun _ h9 => h9) rfl dX10_pivot_22 ?_
      refine zr_if_ne hx hb 38 ⟨by omega, by omega⟩ dX10_pivot_25 (by decide) (fun h_25 => ?_) (fun h_25 => ?_)
      · exfalso; omega
      · exact zr_throw (text := "it is not eliminated") hQ hx hb hst hown (by decide) q_classLink_RX10_98_java_lang_IllegalStateException q_initialized_java_lang_IllegalStateException hX9 (by decide) (fun w9 h9 => hts w9 (by unfold wsX10_pivot; exact List.mem_cons_of_mem _ (List.mem_append_right _ h9))) (by decide +kernel) (by decide +kernel) hK hP hD hS (hl.1.trans hml.symm) dX10_pivot_28 dX10_pivot_31 dX10_pivot_32 dX10_pivot_34 dX10_pivot_37 hno (by decide) (Nat.le_of_ble_eq_true rfl) (by decide) (by decide) hlk (Or.inr ⟨rfl, by omega, by omega⟩) (by decide) (by decide)
    · exact zr_throw (text := "there is no such column") hQ hx hb hst hown (by decide) q_classLink_RX10_64_java_lang_IndexOutOfBoundsExcept q_initialized_java_lang_IndexOutOfBoundsException hX9 (by decide) (fun w9 h9 => hts w9 (by unfold wsX10_pivot; exact List.mem_cons_of_mem _ (List.mem_append_left _ (List.mem_append_right _ h9)))) (by decide +kernel) (by decide +kernel) hK hP hD hS (hl.1.trans hml.symm) dX10_pivot_11 dX10_pivot_14 dX10_pivot_15 dX10_pivot_17 dX10_pivot_20 hno (by decide) (Nat.le_of_ble_eq_true rfl) (by decide) (by decide) hlk (Or.inl ⟨rfl, by omega⟩) (by decide) (by decide)

set_option maxHeartbeats 4000000 in
set_option maxRecDepth 100000 in
/-- LimbSolver.determinant -/
theorem p_determinant (l : Launch) (D : va_G) (cI cJ cE cF cR : ClassId) (hst : l.stackTraces = false) (NP : Nat) (ad : Nat → Nat) (G : Nat → va_E) (y2 y3 : Int) (V : Nat → Rat) (n : Nat) (wd el : Int) (hC9 : pCs cI cJ cE cF cR NP ad G V n wd el) (hNP : 480 ≤ NP) (hy2 : iR y2) (hy3 : iR y3) : Xi l D (zty cI cJ cE cF cR) yX10_determinant wsX10_determinant ({ frames := 6, cells := 1, slots := 6, locals := 130 } : Room) 1 6 [.ref (ad 1), .int (iZ (y2)), .int (iZ (y3))] (pw NP ad G) (fun z9 w1 => ∃ G1 : Nat → va_E, w1 = pw NP ad G1 ∧ ¬ (y2 < 0 ∨ 2 < y2) ∧ el = 1 ∧ bg_tl ((if peR (pe V n n) = n then pe_dt (peM (pe V n n)) (peT (pe V n n)) n else 0)).num.sign ((((if peR (pe V n n) = n then pe_dt (peM (pe V n n)) (peT (pe V n n)) n else 0)).num.natAbs : Nat) : Int) ((((if peR (pe V n n) = n then pe_dt (peM (pe V n n)) (peT (pe V n n)) n else 0)).den : Nat) : Int) y2 y3 z9 ∧ ∀ i9 : Nat, G1 i9 = G i9) (fun E => (E = "java/lang/IndexOutOfBoundsException" ∧ (y2 < 0 ∨ 2 < y2)) ∨ (E = "java/lang/IllegalStateException" ∧ ¬ (y2 < 0 ∨ 2 < y2) ∧ el = 0)) := by
  unfold Xi
  refine zsX (Qc := zQi D _ _) (cc := cX10_determinant) (maxL := 3) (ret := (some .int)) (by decide) rfl (Nat.le_of_ble_eq_true rfl) ?_
  intro zp ze s zm below meth zc ls A args Q hQ hx hb hr hts hown hlk hml hnm hN hX9 hno hA hK hP hD hS hl
  have q_f_RX10_43_eliminated_Z := hts (.fieldLink RX10 43 "LimbSolver" "eliminated" "Z") (by decide +kernel)
  have hin10 : ∀ w ∈ wsX100, w ∈ wsX10_determinant := by decide +kernel
  have q_f_RX10_19_work_LElimination := hts (.fieldLink RX10 19 "LimbSolver" "work" "LLimbSolver$Elimination;") (by decide +kernel)
  have hin2 : ∀ w ∈ wsX20, w ∈ wsX10_determinant := by decide +kernel
  have q_classLink_RX10_64_java_lang_IndexOutOfBoundsExcept := hts (.classLink RX10 64 "java/lang/IndexOutOfBoundsException") (by decide +kernel)
  have q_initialized_java_lang_IndexOutOfBoundsException := hts (.initialized "java/lang/IndexOutOfBoundsException") (by decide +kernel)
  have q_classLink_RX10_98_java_lang_IllegalStateException := hts (.classLink RX10 98 "java/lang/IllegalStateException") (by decide +kernel)
  have q_initialized_java_lang_IllegalStateException := hts (.initialized "java/lang/IllegalStateException") (by decide +kernel)
  have hl : lv_has ls 3 [(0, .ref (ad 1)), (1, .int (iZ (y2))), (2, .int (iZ (y3)))] := hl
  obtain ⟨hso, ⟨h1n, hn, hT⟩, hQ9, ⟨hsh, hre, hsq⟩, ρ, PR, ⟨hst9, hwk, hHb, hpr, L8, n8, tn8, pv8, ml8, sv8, hel8⟩, hrun⟩ := id hC9
  have hel01 : el = 0 ∨ el = 1 := by rcases hrun with ⟨_, q⟩ | ⟨_, q, _⟩; exact Or.inl q; exact q
  have hy21 := hy2.1
  have hy22 := hy2.2
  have hy31 := hy3.1
  have hy32 := hy3.2
  by_cases hel1 : el = 1
  · have hrn : pRn cI NP ad G ρ PR n V := by rcases hrun with ⟨_, q⟩ | ⟨_, _, q⟩; omega; exact q
    obtain ⟨L9, rl, hel9, hPR, hRw, hL, hL9, hun, hvo⟩ := hrn
    have hVn := pe_ok hT h1n hn n (Nat.le_refl n)
    have hrN := hVn.1.2.1
    refine lv_iload_n hx hb dX10_determinant_0 rfl (lv_at hl 1 rfl) ?_
    refine zc_Si (As := [.int (iZ (y2))]) (rest := []) (wr := (pw NP ad G)) ⟨hx, hb, hml, hown, hts⟩ (c_isPart l D cI cJ cE cF cR y2 hy2) (va_cwS 1 hts gX10_determinant_X10_isPart rfl rfl rfl (by decide +kernel) ⟨Nat.le_of_ble_eq_true rfl, Nat.le_of_ble_eq_true rfl⟩) hN hK hP hD hS hA [] (List.range NP) rfl (pw_all _ _ _) rfl (pw_nd _) (fun _ _ h9 => nomatch h9) rfl hl.1 (Nat.le_of_ble_eq_true rfl) dX10_determinant_1 ⟨by decide, by decide⟩ (fun q1 w1 H locs hz1 hp hP hD hS => ?_)
    obtain ⟨hw9, hh1⟩ := hp
    subst hw9
    rw [List.append_nil] at hP hD
    refine zr_if_ne hx hb 17 ⟨by omega, by omega⟩ dX10_determinant_4 (by decide) (fun h_4 => ?_) (fun h_4 => ?_)
    · refine lv_aload_n hx hb dX10_determinant_17 rfl (lv_at hl 0 rfl) ?_
      refine va_get (D := D) (ci := 10) (v := .int (iZ (el))) (C := RX10) (T := TX10) (N := 6) hx hb hts hin10 hown hK hP (1) (pw_at (by omega) (hso)) rfl 5 (by decide) q_f_RX10_43_eliminated_Z (fun _ h9 => h9) rfl dX10_determinant_18 ?_
      refine zr_if_ne hx hb 34 ⟨by omega, by omega⟩ dX10_determinant_21 (by decide) (fun h_21 => ?_) (fun h_21 => ?_)
      · refine lv_aload_n hx hb dX10_determinant_34 rfl (lv_at hl 0 rfl) ?_
        refine va_get (D := D) (ci := 10) (v := .ref (ad 5)) (C := RX10) (T := TX10) (N := 6) hx hb hts hin10 hown hK hP (1) (pw_at (by omega) (hso)) rfl 1 (by decide) q_f_RX10_19_work_LElimination (fun _ h9 => h9) rfl dX10_determinant_35 ?_
        refine va_getN (D := D) (ci := 2) (v := .ref (ad 454)) (C := RX2) (T := TX2) (N := 17) hx hb hts hin2 hown hK hP (5) (pw_at (by omega) (hel9)) rfl 4 (by decide) (hN.F 24 rfl) (fun _ h9 => h9) rfl dX10_determinant_38 ?_
        refine lv_iload_n hx hb dX10_determinant_41 rfl (lv_at hl 1 rfl) ?_
        refine lv_iload_n hx hb dX10_determinant_42 rfl (lv_at hl 2 rfl) ?_
        refine zc_Vi (As := [.int (iZ (y2)), .int (iZ (y3))]) (rest := []) (wr := []) ⟨hx, hb, hml, hown, hts⟩ (p_ftell l D cI cJ cE cF cR NP ad G (454) 46 ((if peR (pe V n n) = n then pe_dt (peM (pe V n n)) (peT (pe V n n)) n else 0)) y2 y3 (hvo) hy2 hy3 (by decide) (by omega)) (cwV 2 hts gX10_determinant_X6_tell rfl rfl rfl (by decide +kernel) ⟨Nat.le_of_ble_eq_true rfl, Nat.le_of_ble_eq_true rfl⟩) hN hK hP hD hS hA (List.range NP) [] (pw_all _ _ _) rfl (pw_nd _) rfl (fun _ h9 => nomatch h9) (q0 := 454) (ci := 6) rfl rfl (pw_at (by omega) (hvo.1)) rfl hl.1 (Nat.le_of_ble_eq_true rfl) dX10_determinant_43 ⟨by decide, by decide⟩ (fun q43 w1 H locs hz43 hp hP hD hS => ?_)
        obtain ⟨G9, rfl, hr0, ho9⟩ := hp
        obtain rfl : G = G9 := (funext ho9).symm
        have hP : va_P D vwCl (pw NP ad G) H := hP
        have hD : va_D A (pw NP ad G) := hD
        rw [hQ]
        exact vx_ret (zr_iret rfl hx hb hr hlk dX10_determinant_46 hK hP hD hS (by omega) (by omega) hz43 (⟨G, rfl, by omega, hel1, hr0, fun _ => rfl⟩))
      · exfalso; omega
    · exact zr_throw (text := "there is no such part") hQ hx hb hst hown (by decide) q_classLink_RX10_64_java_lang_IndexOutOfBoundsExcept q_initialized_java_lang_IndexOutOfBoundsException hX9 (by decide) (fun w9 h9 => hts w9 (by unfold wsX10_determinant; exact List.mem_cons_of_mem _ (List.mem_append_left _ (List.mem_append_right _ h9)))) (by decide +kernel) (by decide +kernel) hK hP hD hS (hl.1.trans hml.symm) dX10_determinant_7 dX10_determinant_10 dX10_determinant_11 dX10_determinant_13 dX10_determinant_16 hno (by decide) (Nat.le_of_ble_eq_true rfl) (by decide) (by decide) hlk (Or.inl ⟨rfl, by omega⟩) (by decide) (by decide)
  · refine lv_iload_n hx hb dX10_determinant_0 rfl (lv_at hl 1 rfl) ?_
    refine zc_Si (As := [.int (iZ (y2))]) (rest := []) (wr := (pw NP ad G)) ⟨hx, hb, hml, hown, hts⟩ (c_isPart l D cI cJ cE cF cR y2 hy2) (va_cwS 1 hts gX10_determinant_X10_isPart rfl rfl rfl (by decide +kernel) ⟨Nat.le_of_ble_eq_true rfl, Nat.le_of_ble_eq_true rfl⟩) hN hK hP hD hS hA [] (List.range NP) rfl (pw_all _ _ _) rfl (pw_nd _) (fun _ _ h9 => nomatch h9) rfl hl.1 (Nat.le_of_ble_eq_true rfl) dX10_determinant_1 ⟨by decide, by decide⟩ (fun q1 w1 H locs hz1 hp hP hD hS => ?_)
    obtain ⟨hw9, hh1⟩ := hp
    subst hw9
    rw [List.append_nil] at hP hD
    refine zr_if_ne hx hb 17 ⟨by omega, by omega⟩ dX10_determinant_4 (by decide) (fun h_4 => ?_) (fun h_4 => ?_)
    · refine lv_aload_n hx hb dX10_determinant_17 rfl (lv_at hl 0 rfl) ?_
      refine va_get (D := D) (ci := 10) (v := .int (iZ (el))) (C := RX10) (T := TX10) (N := 6) hx hb hts hin10 hown hK hP (1) (pw_at (by omega) (hso)) rfl 5 (by decide) q_f_RX10_43_eliminated_Z (fun _ h9 => h9) rfl dX10_determinant_18 ?_
      refine zr_if_ne hx hb 34 ⟨by omega, by omega⟩ dX10_determinant_21 (by decide) (fun h_21 => ?_) (fun h_21 => ?_)
      · exfalso; omega
      · exact zr_throw (text := "it is not eliminated") hQ hx hb hst hown (by decide) q_classLink_RX10_98_java_lang_IllegalStateException q_initialized_java_lang_IllegalStateException hX9 (by decide) (fun w9 h9 => hts w9 (by unfold wsX10_determinant; exact List.mem_cons_of_mem _ (List.mem_append_right _ h9))) (by decide +kernel) (by decide +kernel) hK hP hD hS (hl.1.trans hml.symm) dX10_determinant_24 dX10_determinant_27 dX10_determinant_28 dX10_determinant_30 dX10_determinant_33 hno (by decide) (Nat.le_of_ble_eq_true rfl) (by decide) (by decide) hlk (Or.inr ⟨rfl, by omega, by omega⟩) (by decide) (by decide)
    · exact zr_throw (text := "there is no such part") hQ hx hb hst hown (by decide) q_classLink_RX10_64_java_lang_IndexOutOfBoundsExcept q_initialized_java_lang_IndexOutOfBoundsException hX9 (by decide) (fun w9 h9 => hts w9 (by unfold wsX10_determinant; exact List.mem_cons_of_mem _ (List.mem_append_left _ (List.mem_append_right _ h9)))) (by decide +kernel) (by decide +kernel) hK hP hD hS (hl.1.trans hml.symm) dX10_determinant_7 dX10_determinant_10 dX10_determinant_11 dX10_determinant_13 dX10_determinant_16 hno (by decide) (Nat.le_of_ble_eq_true rfl) (by decide) (by decide) hlk (Or.inl ⟨rfl, by omega⟩) (by decide) (by decide)

set_option maxHeartbeats 4000000 in
set_option maxRecDepth 100000 in
/-- LimbSolver.cell -/
theorem p_cell (l : Launch) (D : va_G) (cI cJ cE cF cR : ClassId) (hst : l.stackTraces = false) (NP : Nat) (ad : Nat → Nat) (G : Nat → va_E) (y1 y4 y2 y3 : Int) (V : Nat → Rat) (n : Nat) (wd el : Int) (hC9 : pCs cI cJ cE cF cR NP ad G V n wd el) (hNP : 480 ≤ NP) (hy1 : iR y1) (hy4 : iR y4) (hy2 : iR y2) (hy3 : iR y3) : Xi l D (zty cI cJ cE cF cR) yX10_cell wsX10_cell ({ frames := 6, cells := 1, slots := 6, locals := 130 } : Room) 1 6 [.ref (ad 1), .int (iZ (y1)), .int (iZ (y4)), .int (iZ (y2)), .int (iZ (y3))] (pw NP ad G) (fun z9 w1 => ∃ G1 : Nat → va_E, w1 = pw NP ad G1 ∧ ¬ ((y1 < 0 ∨ (n : Int) ≤ y1 ∨ y4 < 0 ∨ (n : Int) < y4) ∨ (y2 < 0 ∨ 2 < y2)) ∧ el = 1 ∧ bg_tl (peM (pe V n n) y1.toNat y4.toNat).num.sign (((peM (pe V n n) y1.toNat y4.toNat).num.natAbs : Nat) : Int) (((peM (pe V n n) y1.toNat y4.toNat).den : Nat) : Int) y2 y3 z9 ∧ ∀ i9 : Nat, G1 i9 = G i9) (fun E => (E = "java/lang/IndexOutOfBoundsException" ∧ ((y1 < 0 ∨ (n : Int) ≤ y1 ∨ y4 < 0 ∨ (n : Int) < y4) ∨ (y2 < 0 ∨ 2 < y2))) ∨ (E = "java/lang/IllegalStateException" ∧ ¬ ((y1 < 0 ∨ (n : Int) ≤ y1 ∨ y4 < 0 ∨ (n : Int) < y4) ∨ (y2 < 0 ∨ 2 < y2)) ∧ el = 0)) := by
  unfold Xi
  refine zsX (Qc := zQi D _ _) (cc := cX10_cell) (maxL := 5) (ret := (some .int)) (by decide) rfl (Nat.le_of_ble_eq_true rfl) ?_
  intro zp ze s zm below meth zc ls A args Q hQ hx hb hr hts hown hlk hml hnm hN hX9 hno hA hK hP hD hS hl
  have q_f_RX10_12_equations_LEquations := hts (.fieldLink RX10 12 "LimbSolver" "equations" "LLimbSolver$Equations;") (by decide +kernel)
  have hin10 : ∀ w ∈ wsX100, w ∈ wsX10_cell := by decide +kernel
  have q_classLink_RX10_64_java_lang_IndexOutOfBoundsExcept := hts (.classLink RX10 64 "java/lang/IndexOutOfBoundsException") (by decide +kernel)
  have q_initialized_java_lang_IndexOutOfBoundsException := hts (.initialized "java/lang/IndexOutOfBoundsException") (by decide +kernel)
  have q_f_RX10_43_eliminated_Z := hts (.fieldLink RX10 43 "LimbSolver" "eliminated" "Z") (by decide +kernel)
  have q_f_RX10_19_work_LElimination := hts (.fieldLink RX10 19 "LimbSolver" "work" "LLimbSolver$Elimination;") (by decide +kernel)
  have hin2 : ∀ w ∈ wsX20, w ∈ wsX10_cell := by decide +kernel
  have hin8 : ∀ w ∈ wsX80, w ∈ wsX10_cell := by decide +kernel
  have q_classLink_RX10_98_java_lang_IllegalStateException := hts (.classLink RX10 98 "java/lang/IllegalStateException") (by decide +kernel)
  have q_initialized_java_lang_IllegalStateException := hts (.initialized "java/lang/IllegalStateException") (by decide +kernel)
  have hl : lv_has ls 5 [(0, .ref (ad 1)), (1, .int (iZ (y1))), (2, .int (iZ (y4))), (3, .int (iZ (y2))), (4, .int (iZ (y3)))] := hl
  obtain ⟨hso, ⟨h1n, hn, hT⟩, hQ9, ⟨hsh, hre, hsq⟩, ρ, PR, ⟨hst9, hwk, hHb, hpr, L8, n8, tn8, pv8, ml8, sv8, hel8⟩, hrun⟩ := id hC9
  have hel01 : el = 0 ∨ el = 1 := by rcases hrun with ⟨_, q⟩ | ⟨_, q, _⟩; exact Or.inl q; exact q
  have hy11 := hy1.1
  have hy12 := hy1.2
  have hy41 := hy4.1
  have hy42 := hy4.2
  have hy21 := hy2.1
  have hy22 := hy2.2
  have hy31 := hy3.1
  have hy32 := hy3.2
  by_cases hel1 : el = 1
  · have hrn : pRn cI NP ad G ρ PR n V := by rcases hrun with ⟨_, q⟩ | ⟨_, _, q⟩; omega; exact q
    obtain ⟨L9, rl, hel9, hPR, hRw, hL, hL9, hun, hvo⟩ := hrn
    have hVn := pe_ok hT h1n hn n (Nat.le_refl n)
    have hrN := hVn.1.2.1
    refine lv_aload_n hx hb dX10_cell_0 rfl (lv_at hl 0 rfl) ?_
    refine va_get (D := D) (ci := 10) (v := .ref (ad 2)) (C := RX10) (T := TX10) (N := 6) hx hb hts hin10 hown hK hP (1) (pw_at (by omega) (hso)) rfl 0 (by decide) q_f_RX10_12_equations_LEquations (fun _ h9 => h9) rfl dX10_cell_1 ?_
    refine lv_iload_n hx hb dX10_cell_4 rfl (lv_at hl 1 rfl) ?_
    refine lv_iload_n hx hb dX10_cell_5 rfl (lv_at hl 2 rfl) ?_
    refine zc_Vi (As := [.int (iZ (y1)), .int (iZ (y4))]) (rest := []) (wr := []) ⟨hx, hb, hml, hown, hts⟩ (p_hasPlace l D cI cJ cE cF cR NP ad G n V hQ9 y1 y4 hy1 hy4 hn (by omega)) (cwV 2 hts gX10_cell_X4_hasPlace rfl rfl rfl (by decide +kernel) ⟨Nat.le_of_ble_eq_true rfl, Nat.le_of_ble_eq_true rfl⟩) hN hK hP hD hS hA (List.range NP) [] (pw_all _ _ _) rfl (pw_nd _) rfl (fun _ h9 => nomatch h9) (q0 := 2) (ci := 4) rfl rfl (pw_at (by omega) (hQ9.1)) rfl hl.1 (Nat.le_of_ble_eq_true rfl) dX10_cell_6 ⟨by decide, by decide⟩ (fun q6 w1 H locs hz6 hp hP hD hS => ?_)
    obtain ⟨G9, rfl, hr0, ho9⟩ := hp
    obtain rfl : G = G9 := (funext ho9).symm
    have hh6 : ((0 ≤ y1 ∧ y1 < (n : Int) ∧ 0 ≤ y4 ∧ y4 ≤ (n : Int)) ∧ q6 = 1) ∨ (¬ (0 ≤ y1 ∧ y1 < (n : Int) ∧ 0 ≤ y4 ∧ y4 ≤ (n : Int)) ∧ q6 = 0) := by rw [hr0]; by_cases w : (0 ≤ y1 ∧ y1 < (n : Int) ∧ 0 ≤ y4 ∧ y4 ≤ (n : Int)); (rw [if_pos w]; exact Or.inl ⟨w, rfl⟩); (rw [if_neg w]; exact Or.inr ⟨w, rfl⟩)
    have hP : va_P D vwCl (pw NP ad G) H := hP
    have hD : va_D A (pw NP ad G) := hD
    refine zr_if_eq hx hb 19 ⟨by omega, by omega⟩ dX10_cell_9 (by decide) (fun h_9 => ?_) (fun h_9 => ?_)
    · exact zr_throw (text := "there is no such cell or part") hQ hx hb hst hown (by decide) q_classLink_RX10_64_java_lang_IndexOutOfBoundsExcept q_initialized_java_lang_IndexOutOfBoundsException hX9 (by decide) (fun w9 h9 => hts w9 (by unfold wsX10_cell; exact List.mem_cons_of_mem _ (List.mem_append_left _ (List.mem_append_right _ h9)))) (by decide +kernel) (by decide +kernel) hK hP hD hS (hl.1.trans hml.symm) dX10_cell_19 dX10_cell_22 dX10_cell_23 dX10_cell_25 dX10_cell_28 hno (by decide) (Nat.le_of_ble_eq_true rfl) (by decide) (by decide) hlk (Or.inl ⟨rfl, by omega⟩) (by decide) (by decide)
    · refine lv_iload_n hx hb dX10_cell_12 rfl (lv_at hl 3 rfl) ?_
      refine zc_Si (As := [.int (iZ (y2))]) (rest := []) (wr := (pw NP ad G)) ⟨hx, hb, hml, hown, hts⟩ (c_isPart l D cI cJ cE cF cR y2 hy2) (va_cwS 1 hts gX10_cell_X10_isPart rfl rfl rfl (by decide +kernel) ⟨Nat.le_of_ble_eq_true rfl, Nat.le_of_ble_eq_true rfl⟩) hN hK hP hD hS hA [] (List.range NP) rfl (pw_all _ _ _) rfl (pw_nd _) (fun _ _ h9 => nomatch h9) rfl hl.1 (Nat.le_of_ble_eq_true rfl) dX10_cell_13 ⟨by decide, by decide⟩ (fun q13 w1 H locs hz13 hp hP hD hS => ?_)
      obtain ⟨hw9, hh13⟩ := hp
      subst hw9
      rw [List.append_nil] at hP hD
      refine zr_if_ne hx hb 29 ⟨by omega, by omega⟩ dX10_cell_16 (by decide) (fun h_16 => ?_) (fun h_16 => ?_)
      · refine lv_aload_n hx hb dX10_cell_29 rfl (lv_at hl 0 rfl) ?_
        refine va_get (D := D) (ci := 10) (v := .int (iZ (el))) (C := RX10) (T := TX10) (N := 6) hx hb hts hin10 hown hK hP (1) (pw_at (by omega) (hso)) rfl 5 (by decide) q_f_RX10_43_eliminated_Z (fun _ h9 => h9) rfl dX10_cell_30 ?_
        refine zr_if_ne hx hb 46 ⟨by omega, by omega⟩ dX10_cell_33 (by decide) (fun h_33 => ?_) (fun h_33 => ?_)
        · have hρ1 := hst9.2.2.2.2.1 y1.toNat (by omega)
          refine lv_aload_n hx hb dX10_cell_46 rfl (lv_at hl 0 rfl) ?_
          refine va_get (D := D) (ci := 10) (v := .ref (ad 5)) (C := RX10) (T := TX10) (N := 6) hx hb hts hin10 hown hK hP (1) (pw_at (by omega) (hso)) rfl 1 (by decide) q_f_RX10_19_work_LElimination (fun _ h9 => h9) rfl dX10_cell_47 ?_
          refine va_getN (D := D) (ci := 2) (v := .ref (ad 33)) (C := RX2) (T := TX2) (N := 17) hx hb hts hin2 hown hK hP (5) (pw_at (by omega) (hel9)) rfl 1 (by decide) (hN.F 21 rfl) (fun _ h9 => h9) rfl dX10_cell_50 ?_
          refine lv_iload_n hx hb dX10_cell_53 rfl (lv_at hl 1 rfl) ?_
          refine zr_aald hx hb hK hP (33) 4 (pw_at (by omega) (hst9.1)) rfl (y1.toNat) (by omega) (by omega) (by omega) (v := ad (37 + 66 * ρ y1.toNat)) (rfl) dX10_cell_54 ?_
          refine va_getN (D := D) (ci := 8) (v := .ref (ad (39 + 66 * ρ y1.toNat))) (C := RX8) (T := TX8) (N := 4) hx hb hts hin8 hown hK hP (37 + 66 * ρ y1.toNat) (pw_at (by omega) ((hRw y1.toNat (by omega)).1)) rfl 1 (by decide) (hN.F 18 rfl) (fun _ h9 => h9) rfl dX10_cell_55 ?_
          refine lv_iload_n hx hb dX10_cell_58 rfl (lv_at hl 2 rfl) ?_
          refine zr_aald hx hb hK hP (39 + 66 * ρ y1.toNat) 3 (pw_at (by omega) ((hst9.2.2.2.1 _ hρ1).2)) rfl (y4.toNat) (by omega) (by omega) (by omega) (v := ad (43 + 66 * ρ y1.toNat + 8 * y4.toNat)) (rfl) dX10_cell_59 ?_
          refine lv_iload_n hx hb dX10_cell_60 rfl (lv_at hl 3 rfl) ?_
          refine lv_iload hx hb dX10_cell_61 (lv_at hl 4 rfl) ?_
          refine zc_Vi (As := [.int (iZ (y2)), .int (iZ (y3))]) (rest := []) (wr := []) ⟨hx, hb, hml, hown, hts⟩ (p_ftell l D cI cJ cE cF cR NP ad G (43 + 66 * ρ y1.toNat + 8 * y4.toNat) 80 (peM (pe V n n) y1.toNat y4.toNat) y2 y3 ((hRw y1.toNat (by omega)).2.2.1 y4.toNat (by omega)) hy2 hy3 (by decide) (by omega)) (cwV 2 hts gX10_cell_X6_tell rfl rfl rfl (by decide +kernel) ⟨Nat.le_of_ble_eq_true rfl, Nat.le_of_ble_eq_true rfl⟩) hN hK hP hD hS hA (List.range NP) [] (pw_all _ _ _) rfl (pw_nd _) rfl (fun _ h9 => nomatch h9) (q0 := 43 + 66 * ρ y1.toNat + 8 * y4.toNat) (ci := 6) rfl rfl (pw_at (by omega) (((hRw y1.toNat (by omega)).2.2.1 y4.toNat (by omega)).1)) rfl hl.1 (Nat.le_of_ble_eq_true rfl) dX10_cell_63 ⟨by decide, by decide⟩ (fun q63 w1 H locs hz63 hp hP hD hS => ?_)
          obtain ⟨G9, rfl, hr0, ho9⟩ := hp
          obtain rfl : G = G9 := (funext ho9).symm
          have hP : va_P D vwCl (pw NP ad G) H := hP
          have hD : va_D A (pw NP ad G) := hD
          rw [hQ]
          exact vx_ret (zr_iret rfl hx hb hr hlk dX10_cell_66 hK hP hD hS (by omega) (by omega) hz63 (⟨G, rfl, by omega, hel1, hr0, fun _ => rfl⟩))
        · exfalso; omega
      · exact zr_throw (text := "there is no such cell or part") hQ hx hb hst hown (by decide) q_classLink_RX10_64_java_lang_IndexOutOfBoundsExcept q_initialized_java_lang_IndexOutOfBoundsException hX9 (by decide) (fun w9 h9 => hts w9 (by unfold wsX10_cell; exact List.mem_cons_of_mem _ (List.mem_append_left _ (List.mem_append_right _ h9)))) (by decide +kernel) (by decide +kernel) hK hP hD hS (hl.1.trans hml.symm) dX10_cell_19 dX10_cell_22 dX10_cell_23 dX10_cell_25 dX10_cell_28 hno (by decide) (Nat.le_of_ble_eq_true rfl) (by decide) (by decide) hlk (Or.inl ⟨rfl, by omega⟩) (by decide) (by decide)
  · refine lv_aload_n hx hb dX10_cell_0 rfl (lv_at hl 0 rfl) ?_
    refine va_get (D := D) (ci := 10) (v := .ref (ad 2)) (C := RX10) (T := TX10) (N := 6) hx hb hts hin10 hown hK hP (1) (pw_at (by omega) (hso)) rfl 0 (by decide) q_f_RX10_12_equations_LEquations (fun _ h9 => h9) rfl dX10_cell_1 ?_
    refine lv_iload_n hx hb dX10_cell_4 rfl (lv_at hl 1 rfl) ?_
    refine lv_iload_n hx hb dX10_cell_5 rfl (lv_at hl 2 rfl) ?_
    refine zc_Vi (As := [.int (iZ (y1)), .int (iZ (y4))]) (rest := []) (wr := []) ⟨hx, hb, hml, hown, hts⟩ (p_hasPlace l D cI cJ cE cF cR NP ad G n V hQ9 y1 y4 hy1 hy4 hn (by omega)) (cwV 2 hts gX10_cell_X4_hasPlace rfl rfl rfl (by decide +kernel) ⟨Nat.le_of_ble_eq_true rfl, Nat.le_of_ble_eq_true rfl⟩) hN hK hP hD hS hA (List.range NP) [] (pw_all _ _ _) rfl (pw_nd _) rfl (fun _ h9 => nomatch h9) (q0 := 2) (ci := 4) rfl rfl (pw_at (by omega) (hQ9.1)) rfl hl.1 (Nat.le_of_ble_eq_true rfl) dX10_cell_6 ⟨by decide, by decide⟩ (fun q6 w1 H locs hz6 hp hP hD hS => ?_)
    obtain ⟨G9, rfl, hr0, ho9⟩ := hp
    obtain rfl : G = G9 := (funext ho9).symm
    have hh6 : ((0 ≤ y1 ∧ y1 < (n : Int) ∧ 0 ≤ y4 ∧ y4 ≤ (n : Int)) ∧ q6 = 1) ∨ (¬ (0 ≤ y1 ∧ y1 < (n : Int) ∧ 0 ≤ y4 ∧ y4 ≤ (n : Int)) ∧ q6 = 0) := by rw [hr0]; by_cases w : (0 ≤ y1 ∧ y1 < (n : Int) ∧ 0 ≤ y4 ∧ y4 ≤ (n : Int)); (rw [if_pos w]; exact Or.inl ⟨w, rfl⟩); (rw [if_neg w]; exact Or.inr ⟨w, rfl⟩)
    have hP : va_P D vwCl (pw NP ad G) H := hP
    have hD : va_D A (pw NP ad G) := hD
    refine zr_if_eq hx hb 19 ⟨by omega, by omega⟩ dX10_cell_9 (by decide) (fun h_9 => ?_) (fun h_9 => ?_)
    · exact zr_throw (text := "there is no such cell or part") hQ hx hb hst hown (by decide) q_classLink_RX10_64_java_lang_IndexOutOfBoundsExcept q_initialized_java_lang_IndexOutOfBoundsException hX9 (by decide) (fun w9 h9 => hts w9 (by unfold wsX10_cell; exact List.mem_cons_of_mem _ (List.mem_append_left _ (List.mem_append_right _ h9)))) (by decide +kernel) (by decide +kernel) hK hP hD hS (hl.1.trans hml.symm) dX10_cell_19 dX10_cell_22 dX10_cell_23 dX10_cell_25 dX10_cell_28 hno (by decide) (Nat.le_of_ble_eq_true rfl) (by decide) (by decide) hlk (Or.inl ⟨rfl, by omega⟩) (by decide) (by decide)
    · refine lv_iload_n hx hb dX10_cell_12 rfl (lv_at hl 3 rfl) ?_
      refine zc_Si (As := [.int (iZ (y2))]) (rest := []) (wr := (pw NP ad G)) ⟨hx, hb, hml, hown, hts⟩ (c_isPart l D cI cJ cE cF cR y2 hy2) (va_cwS 1 hts gX10_cell_X10_isPart rfl rfl rfl (by decide +kernel) ⟨Nat.le_of_ble_eq_true rfl, Nat.le_of_ble_eq_true rfl⟩) hN hK hP hD hS hA [] (List.range NP) rfl (pw_all _ _ _) rfl (pw_nd _) (fun _ _ h9 => nomatch h9) rfl hl.1 (Nat.le_of_ble_eq_true rfl) dX10_cell_13 ⟨by decide, by decide⟩ (fun q13 w1 H locs hz13 hp hP hD hS => ?_)
      obtain ⟨hw9, hh13⟩ := hp
      subst hw9
      rw [List.append_nil] at hP hD
      refine zr_if_ne hx hb 29 ⟨by omega, by omega⟩ dX10_cell_16 (by decide) (fun h_16 => ?_) (fun h_16 => ?_)
      · refine lv_aload_n hx hb dX10_cell_29 rfl (lv_at hl 0 rfl) ?_
        refine va_get (D := D) (ci := 10) (v := .int (iZ (el))) (C := RX10) (T := TX10) (N := 6) hx hb hts hin10 hown hK hP (1) (pw_at (by omega) (hso)) rfl 5 (by decide) q_f_RX10_43_eliminated_Z (fun _ h9 => h9) rfl dX10_cell_30 ?_
        refine zr_if_ne hx hb 46 ⟨by omega, by omega⟩ dX10_cell_33 (by decide) (fun h_33 => ?_) (fun h_33 => ?_)
        · exfalso; omega
        · exact zr_throw (text := "it is not eliminated") hQ hx hb hst hown (by decide) q_classLink_RX10_98_java_lang_IllegalStateException q_initialized_java_lang_IllegalStateException hX9 (by decide) (fun w9 h9 => hts w9 (by unfold wsX10_cell; exact List.mem_cons_of_mem _ (List.mem_append_right _ h9))) (by decide +kernel) (by decide +kernel) hK hP hD hS (hl.1.trans hml.symm) dX10_cell_36 dX10_cell_39 dX10_cell_40 dX10_cell_42 dX10_cell_45 hno (by decide) (Nat.le_of_ble_eq_true rfl) (by decide) (by decide) hlk (Or.inr ⟨rfl, by omega, by omega⟩) (by decide) (by decide)
      · exact zr_throw (text := "there is no such cell or part") hQ hx hb hst hown (by decide) q_classLink_RX10_64_java_lang_IndexOutOfBoundsExcept q_initialized_java_lang_IndexOutOfBoundsException hX9 (by decide) (fun w9 h9 => hts w9 (by unfold wsX10_cell; exact List.mem_cons_of_mem _ (List.mem_append_left _ (List.mem_append_right _ h9)))) (by decide +kernel) (by decide +kernel) hK hP hD hS (hl.1.trans hml.symm) dX10_cell_19 dX10_cell_22 dX10_cell_23 dX10_cell_25 dX10_cell_28 hno (by decide) (Nat.le_of_ble_eq_true rfl) (by decide) (by decide) hlk (Or.inl ⟨rfl, by omega⟩) (by decide) (by decide)
