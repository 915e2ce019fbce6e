
theorem pCs.keep {cI cJ cE cF cR : ClassId} {NP : Nat} {ad : Nat → Nat} {G G' : Nat → va_E} {V : Nat → Rat} {n : Nat} {wd el : Int} (h : pCs cI cJ cE cF cR NP ad G V n wd el) (hw : pWk cI ad G') (h4 : ∃ Z : Nat → Int, G' 474 = aI cI 36 Z) (h5 : pFh cI ad G' 475 2) (hk : ∀ i : Nat, (0 < i ∧ i < 7) ∨ (32 < i ∧ i < 433) ∨ (453 < i ∧ i < 464) ∨ (469 < i ∧ i < 474) → G' i = G i) : pCs cI cJ cE cF cR NP ad G' V n wd el := by
  obtain ⟨hso, ht, hQ9, ⟨hsh, hre, hsq⟩, ρ, PR, ⟨hst9, hwk, hHb, hpr, L8, n8, tn8, pv8, ml8, sv8, hel8⟩, hrun⟩ := h
  refine ⟨(hk 1 (by omega)).trans hso, ht, hQ9.keep (hk 2 (by omega)) (hk 3 (by omega)) (hk 4 (by omega)), ⟨h5, (hk 473 (by omega)).trans hre, h4⟩, ρ, PR, ⟨hst9.keep (hk 33 (by omega)) (hk 34 (by omega)) (hk 36 (by omega)) (fun r hr => ⟨hk _ (by omega), hk _ (by omega)⟩), hw, hHb.keep (fun i _ _ => hk i (by omega)), (hk 35 (by omega)).trans hpr, L8, n8, tn8, pv8, ml8, sv8, (hk 5 (by omega)).trans hel8⟩, ?_⟩
  rcases hrun with q | ⟨q1, q2, L9, rl, hel9, hPR, hRw, hL, hL9, hun, hvo⟩
  · exact Or.inl q
  · refine Or.inr ⟨q1, q2, L9, rl, (hk 5 (by omega)).trans hel9, hPR, fun i9 hi9 => (hRw i9 hi9).keep ht.2.1 (fun i _ _ => hk i (by have := hst9.2.2.2.2.1 i9 (by omega); omega)), hL.keep (fun i _ _ => ?_), hL9, fun c8 hc8 => (hun c8 hc8).keep (fun i _ _ => hk i (by omega)), hvo.keep (fun i _ _ => hk i (by omega))⟩
    have h1 := hL9.1
    have h2 := hL9.2.2.2.1
    exact hk i (by omega)
set_option maxHeartbeats 4000000 in
set_option maxRecDepth 100000 in
/-- LimbSolver.solution -/
theorem p_solution (l : Launch) (D : va_G) (cI cJ cE cF cR : ClassId) (hst : l.stackTraces = false) (NP : Nat) (ad : Nat → Nat) (G : Nat → va_E) (y1 y2 y3 : Int) (V : Nat → Rat) (n : Nat) (wd el : Int) (hC9 : pCs cI cJ cE cF cR NP ad G V n wd el) (hNP : 480 ≤ NP) (hy1 : iR y1) (hy2 : iR y2) (hy3 : iR y3) : Xi l D (zty cI cJ cE cF cR) yX10_solution wsX10_solution ({ frames := 6, cells := 1, slots := 6, locals := 130 } : Room) 1 6 [.ref (ad 1), .int (iZ (y1)), .int (iZ (y2)), .int (iZ (y3))] (pw NP ad G) (fun z9 w1 => ∃ G1 : Nat → va_E, w1 = pw NP ad G1 ∧ ¬ ((y1 < 0 ∨ (n : Int) ≤ y1) ∨ (y2 < 0 ∨ 2 < y2)) ∧ ¬ (el = 0 ∨ pe_svk (peM (pe V n n)) n (peR (pe V n n)) (n - peR (pe V n n)) = 0) ∧ bg_tl (pe_x (pe V n n) n y1.toNat).num.sign (((pe_x (pe V n n) n y1.toNat).num.natAbs : Nat) : Int) (((pe_x (pe V n n) n y1.toNat).den : Nat) : Int) y2 y3 z9 ∧ ∀ i9 : Nat, G1 i9 = G i9) (fun E => (E = "java/lang/IndexOutOfBoundsException" ∧ ((y1 < 0 ∨ (n : Int) ≤ y1) ∨ (y2 < 0 ∨ 2 < y2))) ∨ (E = "java/lang/IllegalStateException" ∧ ¬ ((y1 < 0 ∨ (n : Int) ≤ y1) ∨ (y2 < 0 ∨ 2 < y2)) ∧ (el = 0 ∨ pe_svk (peM (pe V n n)) n (peR (pe V n n)) (n - peR (pe V n n)) = 0))) := by
  unfold Xi
  refine zsX (Qc := zQi D _ _) (cc := cX10_solution) (maxL := 4) (ret := (some .int)) (by decide) rfl (Nat.le_of_ble_eq_true rfl) ?_
  intro zp ze s zm below meth zc ls A args Q hQ hx hb hr hts hown hlk hml hnm hN hX9 hno hA hK hP hD hS hl
  have q_f_RX10_12_equations_LEquations := hts (.fieldLink RX10 12 "LimbSolver" "equations" "LLimbSolver$Equations;") (by decide +kernel)
  have hin10 : ∀ w ∈ wsX100, w ∈ wsX10_solution := by decide +kernel
  have q_classLink_RX10_64_java_lang_IndexOutOfBoundsExcept := hts (.classLink RX10 64 "java/lang/IndexOutOfBoundsException") (by decide +kernel)
  have q_initialized_java_lang_IndexOutOfBoundsException := hts (.initialized "java/lang/IndexOutOfBoundsException") (by decide +kernel)
  have q_f_RX10_43_eliminated_Z := hts (.fieldLink RX10 43 "LimbSolver" "eliminated" "Z") (by decide +kernel)
  have q_f_RX10_19_work_LElimination := hts (.fieldLink RX10 19 "LimbSolver" "work" "LLimbSolver$Elimination;") (by decide +kernel)
  have hin2 : ∀ w ∈ wsX20, w ∈ wsX10_solution := by decide +kernel
  have q_classLink_RX10_98_java_lang_IllegalStateException := hts (.classLink RX10 98 "java/lang/IllegalStateException") (by decide +kernel)
  have q_initialized_java_lang_IllegalStateException := hts (.initialized "java/lang/IllegalStateException") (by decide +kernel)
  have hl : lv_has ls 4 [(0, .ref (ad 1)), (1, .int (iZ (y1))), (2, .int (iZ (y2))), (3, .int (iZ (y3)))] := hl
  obtain ⟨hso, ⟨h1n, hn, hT⟩, hQ9, ⟨hsh, hre, hsq⟩, ρ, PR, ⟨hst9, hwk, hHb, hpr, L8, n8, tn8, pv8, ml8, sv8, hel8⟩, hrun⟩ := id hC9
  have hel01 : el = 0 ∨ el = 1 := by rcases hrun with ⟨_, q⟩ | ⟨_, q, _⟩; exact Or.inl q; exact q
  have hy11 := hy1.1
  have hy12 := hy1.2
  have hy21 := hy2.1
  have hy22 := hy2.2
  have hy31 := hy3.1
  have hy32 := hy3.2
  by_cases hel1 : el = 1
  · have hrn : pRn cI NP ad G ρ PR n V := by rcases hrun with ⟨_, q⟩ | ⟨_, _, q⟩; omega; exact q
    obtain ⟨L9, rl, hel9, hPR, hRw, hL, hL9, hun, hvo⟩ := hrn
    have hVn := pe_ok hT h1n hn n (Nat.le_refl n)
    have hrN := hVn.1.2.1
    refine lv_aload_n hx hb dX10_solution_0 rfl (lv_at hl 0 rfl) ?_
    refine va_get (D := D) (ci := 10) (v := .ref (ad 2)) (C := RX10) (T := TX10) (N := 6) hx hb hts hin10 hown hK hP (1) (pw_at (by omega) (hso)) rfl 0 (by decide) q_f_RX10_12_equations_LEquations (fun _ h9 => h9) rfl dX10_solution_1 ?_
    refine lv_iload_n hx hb dX10_solution_4 rfl (lv_at hl 1 rfl) ?_
    refine zc_Vi (As := [.int (iZ (y1))]) (rest := []) (wr := []) ⟨hx, hb, hml, hown, hts⟩ (p_hasRow l D cI cJ cE cF cR NP ad G n V hQ9 y1 hy1 hn (by omega)) (cwV 1 hts gX10_solution_X4_hasRow rfl rfl rfl (by decide +kernel) ⟨Nat.le_of_ble_eq_true rfl, Nat.le_of_ble_eq_true rfl⟩) hN hK hP hD hS hA (List.range NP) [] (pw_all _ _ _) rfl (pw_nd _) rfl (fun _ h9 => nomatch h9) (q0 := 2) (ci := 4) rfl rfl (pw_at (by omega) (hQ9.1)) rfl hl.1 (Nat.le_of_ble_eq_true rfl) dX10_solution_5 ⟨by decide, by decide⟩ (fun q5 w1 H locs hz5 hp hP hD hS => ?_)
    obtain ⟨G9, rfl, hr0, ho9⟩ := hp
    obtain rfl : G = G9 := (funext ho9).symm
    have hh5 : ((0 ≤ y1 ∧ y1 < (n : Int)) ∧ q5 = 1) ∨ (¬ (0 ≤ y1 ∧ y1 < (n : Int)) ∧ q5 = 0) := by rw [hr0]; by_cases w : (0 ≤ y1 ∧ y1 < (n : Int)); (rw [if_pos w]; exact Or.inl ⟨w, rfl⟩); (rw [if_neg w]; exact Or.inr ⟨w, rfl⟩)
    have hP : va_P D vwCl (pw NP ad G) H := hP
    have hD : va_D A (pw NP ad G) := hD
    refine zr_if_eq hx hb 18 ⟨by omega, by omega⟩ dX10_solution_8 (by decide) (fun h_8 => ?_) (fun h_8 => ?_)
    · exact zr_throw (text := "there is no such column or part") hQ hx hb hst hown (by decide) q_classLink_RX10_64_java_lang_IndexOutOfBoundsExcept q_initialized_java_lang_IndexOutOfBoundsException hX9 (by decide) (fun w9 h9 => hts w9 (by unfold wsX10_solution; exact List.mem_cons_of_mem _ (List.mem_append_left _ (List.mem_append_right _ h9)))) (by decide +kernel) (by decide +kernel) hK hP hD hS (hl.1.trans hml.symm) dX10_solution_18 dX10_solution_21 dX10_solution_22 dX10_solution_24 dX10_solution_27 hno (by decide) (Nat.le_of_ble_eq_true rfl) (by decide) (by decide) hlk (Or.inl ⟨rfl, by omega⟩) (by decide) (by decide)
    · refine lv_iload_n hx hb dX10_solution_11 rfl (lv_at hl 2 rfl) ?_
      refine zc_Si (As := [.int (iZ (y2))]) (rest := []) (wr := (pw NP ad G)) ⟨hx, hb, hml, hown, hts⟩ (c_isPart l D cI cJ cE cF cR y2 hy2) (va_cwS 1 hts gX10_solution_X10_isPart rfl rfl rfl (by decide +kernel) ⟨Nat.le_of_ble_eq_true rfl, Nat.le_of_ble_eq_true rfl⟩) hN hK hP hD hS hA [] (List.range NP) rfl (pw_all _ _ _) rfl (pw_nd _) (fun _ _ h9 => nomatch h9) rfl hl.1 (Nat.le_of_ble_eq_true rfl) dX10_solution_12 ⟨by decide, by decide⟩ (fun q12 w1 H locs hz12 hp hP hD hS => ?_)
      obtain ⟨hw9, hh12⟩ := hp
      subst hw9
      rw [List.append_nil] at hP hD
      refine zr_if_ne hx hb 28 ⟨by omega, by omega⟩ dX10_solution_15 (by decide) (fun h_15 => ?_) (fun h_15 => ?_)
      · refine lv_aload_n hx hb dX10_solution_28 rfl (lv_at hl 0 rfl) ?_
        refine va_get (D := D) (ci := 10) (v := .int (iZ (el))) (C := RX10) (T := TX10) (N := 6) hx hb hts hin10 hown hK hP (1) (pw_at (by omega) (hso)) rfl 5 (by decide) q_f_RX10_43_eliminated_Z (fun _ h9 => h9) rfl dX10_solution_29 ?_
        refine zr_if_eq hx hb 45 ⟨by omega, by omega⟩ dX10_solution_32 (by decide) (fun h_32 => ?_) (fun h_32 => ?_)
        · exfalso; omega
        · refine lv_aload_n hx hb dX10_solution_35 rfl (lv_at hl 0 rfl) ?_
          refine va_get (D := D) (ci := 10) (v := .ref (ad 5)) (C := RX10) (T := TX10) (N := 6) hx hb hts hin10 hown hK hP (1) (pw_at (by omega) (hso)) rfl 1 (by decide) q_f_RX10_19_work_LElimination (fun _ h9 => h9) rfl dX10_solution_36 ?_
          refine va_getN (D := D) (ci := 2) (v := .int (iZ (pe_svk (peM (pe V n n)) n (peR (pe V n n)) (n - peR (pe V n n))))) (C := RX2) (T := TX2) (N := 17) hx hb hts hin2 hown hK hP (5) (pw_at (by omega) (hel9)) rfl 16 (by decide) (hN.F 27 rfl) (fun _ h9 => h9) rfl dX10_solution_39 ?_
          refine zr_if_ne hx hb 55 ((by rcases pe_svk01 (peM (pe V n n)) n (peR (pe V n n)) (n - peR (pe V n n)) with h | h <;> rw [h] <;> decide)) dX10_solution_42 (by decide) (fun h_42 => ?_) (fun h_42 => ?_)
          · have hux : pFr cI ad G (98 + 66 * y1.toNat) 46 (pe_x (pe V n n) n y1.toNat) := by have q := hun y1.toNat (by omega); simp only [] at q; rw [if_neg (by omega)] at q; exact q
            refine lv_aload_n hx hb dX10_solution_55 rfl (lv_at hl 0 rfl) ?_
            refine va_get (D := D) (ci := 10) (v := .ref (ad 5)) (C := RX10) (T := TX10) (N := 6) hx hb hts hin10 hown hK hP (1) (pw_at (by omega) (hso)) rfl 1 (by decide) q_f_RX10_19_work_LElimination (fun _ h9 => h9) rfl dX10_solution_56 ?_
            refine va_getN (D := D) (ci := 2) (v := .ref (ad 34)) (C := RX2) (T := TX2) (N := 17) hx hb hts hin2 hown hK hP (5) (pw_at (by omega) (hel9)) rfl 2 (by decide) (hN.F 22 rfl) (fun _ h9 => h9) rfl dX10_solution_59 ?_
            refine lv_iload_n hx hb dX10_solution_62 rfl (lv_at hl 1 rfl) ?_
            refine zr_aald hx hb hK hP (34) 3 (pw_at (by omega) (hst9.2.1)) rfl (y1.toNat) (by omega) (by omega) (by omega) (v := ad (98 + 66 * y1.toNat)) (rfl) dX10_solution_63 ?_
            refine lv_iload_n hx hb dX10_solution_64 rfl (lv_at hl 2 rfl) ?_
            refine lv_iload_n hx hb dX10_solution_65 rfl (lv_at hl 3 rfl) ?_
            refine zc_Vi (As := [.int (iZ (y2)), .int (iZ (y3))]) (rest := []) (wr := []) ⟨hx, hb, hml, hown, hts⟩ (p_ftell l D cI cJ cE cF cR NP ad G (98 + 66 * y1.toNat) 46 (pe_x (pe V n n) n y1.toNat) y2 y3 (hux) hy2 hy3 (by decide) (by omega)) (cwV 2 hts gX10_solution_X6_tell rfl rfl rfl (by decide +kernel) ⟨Nat.le_of_ble_eq_true rfl, Nat.le_of_ble_eq_true rfl⟩) hN hK hP hD hS hA (List.range NP) [] (pw_all _ _ _) rfl (pw_nd _) rfl (fun _ h9 => nomatch h9) (q0 := 98 + 66 * y1.toNat) (ci := 6) rfl rfl (pw_at (by omega) (hux.1)) rfl hl.1 (Nat.le_of_ble_eq_true rfl) dX10_solution_66 ⟨by decide, by decide⟩ (fun q66 w1 H locs hz66 hp hP hD hS => ?_)
            obtain ⟨G9, rfl, hr0, ho9⟩ := hp
            obtain rfl : G = G9 := (funext ho9).symm
            have hP : va_P D vwCl (pw NP ad G) H := hP
            have hD : va_D A (pw NP ad G) := hD
            rw [hQ]
            exact vx_ret (zr_iret rfl hx hb hr hlk dX10_solution_69 hK hP hD hS (by omega) (by omega) hz66 (⟨G, rfl, by omega, by omega, hr0, fun _ => rfl⟩))
          · exact zr_throw (text := "it is not eliminated or not solvable") hQ hx hb hst hown (by decide) q_classLink_RX10_98_java_lang_IllegalStateException q_initialized_java_lang_IllegalStateException hX9 (by decide) (fun w9 h9 => hts w9 (by unfold wsX10_solution; exact List.mem_cons_of_mem _ (List.mem_append_right _ h9))) (by decide +kernel) (by decide +kernel) hK hP hD hS (hl.1.trans hml.symm) dX10_solution_45 dX10_solution_48 dX10_solution_49 dX10_solution_51 dX10_solution_54 hno (by decide) (Nat.le_of_ble_eq_true rfl) (by decide) (by decide) hlk (Or.inr ⟨rfl, by omega, by omega⟩) (by decide) (by decide)
      · exact zr_throw (text := "there is no such column or part") hQ hx hb hst hown (by decide) q_classLink_RX10_64_java_lang_IndexOutOfBoundsExcept q_initialized_java_lang_IndexOutOfBoundsException hX9 (by decide) (fun w9 h9 => hts w9 (by unfold wsX10_solution; exact List.mem_cons_of_mem _ (List.mem_append_left _ (List.mem_append_right _ h9)))) (by decide +kernel) (by decide +kernel) hK hP hD hS (hl.1.trans hml.symm) dX10_solution_18 dX10_solution_21 dX10_solution_22 dX10_solution_24 dX10_solution_27 hno (by decide) (Nat.le_of_ble_eq_true rfl) (by decide) (by decide) hlk (Or.inl ⟨rfl, by omega⟩) (by decide) (by decide)
  · refine lv_aload_n hx hb dX10_solution_0 rfl (lv_at hl 0 rfl) ?_
    refine va_get (D := D) (ci := 10) (v := .ref (ad 2)) (C := RX10) (T := TX10) (N := 6) hx hb hts hin10 hown hK hP (1) (pw_at (by omega) (hso)) rfl 0 (by decide) q_f_RX10_12_equations_LEquations (fun _ h9 => h9) rfl dX10_solution_1 ?_
    refine lv_iload_n hx hb dX10_solution_4 rfl (lv_at hl 1 rfl) ?_
    refine zc_Vi (As := [.int (iZ (y1))]) (rest := []) (wr := []) ⟨hx, hb, hml, hown, hts⟩ (p_hasRow l D cI cJ cE cF cR NP ad G n V hQ9 y1 hy1 hn (by omega)) (cwV 1 hts gX10_solution_X4_hasRow rfl rfl rfl (by decide +kernel) ⟨Nat.le_of_ble_eq_true rfl, Nat.le_of_ble_eq_true rfl⟩) hN hK hP hD hS hA (List.range NP) [] (pw_all _ _ _) rfl (pw_nd _) rfl (fun _ h9 => nomatch h9) (q0 := 2) (ci := 4) rfl rfl (pw_at (by omega) (hQ9.1)) rfl hl.1 (Nat.le_of_ble_eq_true rfl) dX10_solution_5 ⟨by decide, by decide⟩ (fun q5 w1 H locs hz5 hp hP hD hS => ?_)
    obtain ⟨G9, rfl, hr0, ho9⟩ := hp
    obtain rfl : G = G9 := (funext ho9).symm
    have hh5 : ((0 ≤ y1 ∧ y1 < (n : Int)) ∧ q5 = 1) ∨ (¬ (0 ≤ y1 ∧ y1 < (n : Int)) ∧ q5 = 0) := by rw [hr0]; by_cases w : (0 ≤ y1 ∧ y1 < (n : Int)); (rw [if_pos w]; exact Or.inl ⟨w, rfl⟩); (rw [if_neg w]; exact Or.inr ⟨w, rfl⟩)
    have hP : va_P D vwCl (pw NP ad G) H := hP
    have hD : va_D A (pw NP ad G) := hD
    refine zr_if_eq hx hb 18 ⟨by omega, by omega⟩ dX10_solution_8 (by decide) (fun h_8 => ?_) (fun h_8 => ?_)
    · exact zr_throw (text := "there is no such column or part") hQ hx hb hst hown (by decide) q_classLink_RX10_64_java_lang_IndexOutOfBoundsExcept q_initialized_java_lang_IndexOutOfBoundsException hX9 (by decide) (fun w9 h9 => hts w9 (by unfold wsX10_solution; exact List.mem_cons_of_mem _ (List.mem_append_left _ (List.mem_append_right _ h9)))) (by decide +kernel) (by decide +kernel) hK hP hD hS (hl.1.trans hml.symm) dX10_solution_18 dX10_solution_21 dX10_solution_22 dX10_solution_24 dX10_solution_27 hno (by decide) (Nat.le_of_ble_eq_true rfl) (by decide) (by decide) hlk (Or.inl ⟨rfl, by omega⟩) (by decide) (by decide)
    · refine lv_iload_n hx hb dX10_solution_11 rfl (lv_at hl 2 rfl) ?_
      refine zc_Si (As := [.int (iZ (y2))]) (rest := []) (wr := (pw NP ad G)) ⟨hx, hb, hml, hown, hts⟩ (c_isPart l D cI cJ cE cF cR y2 hy2) (va_cwS 1 hts gX10_solution_X10_isPart rfl rfl rfl (by decide +kernel) ⟨Nat.le_of_ble_eq_true rfl, Nat.le_of_ble_eq_true rfl⟩) hN hK hP hD hS hA [] (List.range NP) rfl (pw_all _ _ _) rfl (pw_nd _) (fun _ _ h9 => nomatch h9) rfl hl.1 (Nat.le_of_ble_eq_true rfl) dX10_solution_12 ⟨by decide, by decide⟩ (fun q12 w1 H locs hz12 hp hP hD hS => ?_)
      obtain ⟨hw9, hh12⟩ := hp
      subst hw9
      rw [List.append_nil] at hP hD
      refine zr_if_ne hx hb 28 ⟨by omega, by omega⟩ dX10_solution_15 (by decide) (fun h_15 => ?_) (fun h_15 => ?_)
      · refine lv_aload_n hx hb dX10_solution_28 rfl (lv_at hl 0 rfl) ?_
        refine va_get (D := D) (ci := 10) (v := .int (iZ (el))) (C := RX10) (T := TX10) (N := 6) hx hb hts hin10 hown hK hP (1) (pw_at (by omega) (hso)) rfl 5 (by decide) q_f_RX10_43_eliminated_Z (fun _ h9 => h9) rfl dX10_solution_29 ?_
        refine zr_if_eq hx hb 45 ⟨by omega, by omega⟩ dX10_solution_32 (by decide) (fun h_32 => ?_) (fun h_32 => ?_)
        · exact zr_throw (text := "it is not eliminated or not solvable") hQ hx hb hst hown (by decide) q_classLink_RX10_98_java_lang_IllegalStateException q_initialized_java_lang_IllegalStateException hX9 (by decide) (fun w9 h9 => hts w9 (by unfold wsX10_solution; exact List.mem_cons_of_mem _ (List.mem_append_right _ h9))) (by decide +kernel) (by decide +kernel) hK hP hD hS (hl.1.trans hml.symm) dX10_solution_45 dX10_solution_48 dX10_solution_49 dX10_solution_51 dX10_solution_54 hno (by decide) (Nat.le_of_ble_eq_true rfl) (by decide) (by decide) hlk (Or.inr ⟨rfl, by omega, by omega⟩) (by decide) (by decide)
        · exfalso; omega
      · exact zr_throw (text := "there is no such column or part") hQ hx hb hst hown (by decide) q_classLink_RX10_64_java_lang_IndexOutOfBoundsExcept q_initialized_java_lang_IndexOutOfBoundsException hX9 (by decide) (fun w9 h9 => hts w9 (by unfold wsX10_solution; exact List.mem_cons_of_mem _ (List.mem_append_left _ (List.mem_append_right _ h9)))) (by decide +kernel) (by decide +kernel) hK hP hD hS (hl.1.trans hml.symm) dX10_solution_18 dX10_solution_21 dX10_solution_22 dX10_solution_24 dX10_solution_27 hno (by decide) (Nat.le_of_ble_eq_true rfl) (by decide) (by decide) hlk (Or.inl ⟨rfl, by omega⟩) (by decide) (by decide)

set_option maxHeartbeats 4000000 in
set_option maxRecDepth 100000 in
/-- LimbSolver.told -/
theorem p_told (l : Launch) (D : va_G) (cI cJ cE cF cR : ClassId) (hst : l.stackTraces = false) (NP : Nat) (ad : Nat → Nat) (G : Nat → va_E) (y1 y4 y2 y3 : Int) (V : Nat → Rat) (n : Nat) (wd el : Int) (hC9 : pCs cI cJ cE cF cR NP ad G V n wd el) (hNP : 480 ≤ NP) (hy1 : iR y1) (hy4 : iR y4) (hy2 : iR y2) (hy3 : iR y3) : Xi l D (zty cI cJ cE cF cR) yX10_told wsX10_told ({ frames := 6, cells := 1, slots := 6, locals := 130 } : Room) 1 6 [.ref (ad 1), .int (iZ (y1)), .int (iZ (y4)), .int (iZ (y2)), .int (iZ (y3))] (pw NP ad G) (fun z9 w1 => ∃ G1 : Nat → va_E, w1 = pw NP ad G1 ∧ ¬ ((y1 < 0 ∨ (n : Int) ≤ y1 ∨ y4 < 0 ∨ (n : Int) < y4) ∨ (y2 < 0 ∨ 2 < y2)) ∧ bg_tl (V (7 * y1.toNat + y4.toNat)).num.sign (((V (7 * y1.toNat + y4.toNat)).num.natAbs : Nat) : Int) (((V (7 * y1.toNat + y4.toNat)).den : Nat) : Int) y2 y3 z9 ∧ pCs cI cJ cE cF cR NP ad G1 V n wd el ∧ ∀ i9 : Nat, i9 = 0 ∨ 480 ≤ i9 → G1 i9 = G i9) (fun E => E = "java/lang/IndexOutOfBoundsException" ∧ ((y1 < 0 ∨ (n : Int) ≤ y1 ∨ y4 < 0 ∨ (n : Int) < y4) ∨ (y2 < 0 ∨ 2 < y2))) := by
  unfold Xi
  refine zsX (Qc := zQi D _ _) (cc := cX10_told) (maxL := 5) (ret := (some .int)) (by decide) rfl (Nat.le_of_ble_eq_true rfl) ?_
  intro zp ze s zm below meth zc ls A args Q hQ hx hb hr hts hown hlk hml hnm hN hX9 hno hA hK hP hD hS hl
  have q_f_RX10_12_equations_LEquations := hts (.fieldLink RX10 12 "LimbSolver" "equations" "LLimbSolver$Equations;") (by decide +kernel)
  have hin10 : ∀ w ∈ wsX100, w ∈ wsX10_told := by decide +kernel
  have q_classLink_RX10_64_java_lang_IndexOutOfBoundsExcept := hts (.classLink RX10 64 "java/lang/IndexOutOfBoundsException") (by decide +kernel)
  have q_initialized_java_lang_IndexOutOfBoundsException := hts (.initialized "java/lang/IndexOutOfBoundsException") (by decide +kernel)
  have q_f_RX10_35_shown_LFraction := hts (.fieldLink RX10 35 "LimbSolver" "shown" "LLimbSolver$Fraction;") (by decide +kernel)
  have hl : lv_has ls 5 [(0, .ref (ad 1)), (1, .int (iZ (y1))), (2, .int (iZ (y4))), (3, .int (iZ (y2))), (4, .int (iZ (y3)))] := hl
  obtain ⟨hso, ⟨h1n, hn, hT⟩, hQ9, ⟨hsh, hre, hsq⟩, ρ, PR, ⟨hst9, hwk, hHb, hpr, L8, n8, tn8, pv8, ml8, sv8, hel8⟩, hrun⟩ := id hC9
  have hel01 : el = 0 ∨ el = 1 := by rcases hrun with ⟨_, q⟩ | ⟨_, q, _⟩; exact Or.inl q; exact q
  have hy11 := hy1.1
  have hy12 := hy1.2
  have hy41 := hy4.1
  have hy42 := hy4.2
  have hy21 := hy2.1
  have hy22 := hy2.2
  have hy31 := hy3.1
  have hy32 := hy3.2
  refine lv_aload_n hx hb dX10_told_0 rfl (lv_at hl 0 rfl) ?_
  refine va_get (D := D) (ci := 10) (v := .ref (ad 2)) (C := RX10) (T := TX10) (N := 6) hx hb hts hin10 hown hK hP (1) (pw_at (by omega) (hso)) rfl 0 (by decide) q_f_RX10_12_equations_LEquations (fun _ h9 => h9) rfl dX10_told_1 ?_
  refine lv_iload_n hx hb dX10_told_4 rfl (lv_at hl 1 rfl) ?_
  refine lv_iload_n hx hb dX10_told_5 rfl (lv_at hl 2 rfl) ?_
  refine zc_Vi (As := [.int (iZ (y1)), .int (iZ (y4))]) (rest := []) (wr := []) ⟨hx, hb, hml, hown, hts⟩ (p_hasPlace l D cI cJ cE cF cR NP ad G n V hQ9 y1 y4 hy1 hy4 hn (by omega)) (cwV 2 hts gX10_told_X4_hasPlace rfl rfl rfl (by decide +kernel) ⟨Nat.le_of_ble_eq_true rfl, Nat.le_of_ble_eq_true rfl⟩) hN hK hP hD hS hA (List.range NP) [] (pw_all _ _ _) rfl (pw_nd _) rfl (fun _ h9 => nomatch h9) (q0 := 2) (ci := 4) rfl rfl (pw_at (by omega) (hQ9.1)) rfl hl.1 (Nat.le_of_ble_eq_true rfl) dX10_told_6 ⟨by decide, by decide⟩ (fun q6 w1 H locs hz6 hp hP hD hS => ?_)
  obtain ⟨G9, rfl, hr0, ho9⟩ := hp
  obtain rfl : G = G9 := (funext ho9).symm
  have hh6 : ((0 ≤ y1 ∧ y1 < (n : Int) ∧ 0 ≤ y4 ∧ y4 ≤ (n : Int)) ∧ q6 = 1) ∨ (¬ (0 ≤ y1 ∧ y1 < (n : Int) ∧ 0 ≤ y4 ∧ y4 ≤ (n : Int)) ∧ q6 = 0) := by rw [hr0]; by_cases w : (0 ≤ y1 ∧ y1 < (n : Int) ∧ 0 ≤ y4 ∧ y4 ≤ (n : Int)); (rw [if_pos w]; exact Or.inl ⟨w, rfl⟩); (rw [if_neg w]; exact Or.inr ⟨w, rfl⟩)
  have hP : va_P D vwCl (pw NP ad G) H := hP
  have hD : va_D A (pw NP ad G) := hD
  refine zr_if_eq hx hb 19 ⟨by omega, by omega⟩ dX10_told_9 (by decide) (fun h_9 => ?_) (fun h_9 => ?_)
  · exact zr_throw (text := "there is no such cell or part") hQ hx hb hst hown (by decide) q_classLink_RX10_64_java_lang_IndexOutOfBoundsExcept q_initialized_java_lang_IndexOutOfBoundsException hX9 (by decide) (fun w9 h9 => hts w9 (by unfold wsX10_told; exact List.mem_cons_of_mem _ (List.mem_append_right _ h9))) (by decide +kernel) (by decide +kernel) hK hP hD hS (hl.1.trans hml.symm) dX10_told_19 dX10_told_22 dX10_told_23 dX10_told_25 dX10_told_28 hno (by decide) (Nat.le_of_ble_eq_true rfl) (by decide) (by decide) hlk (⟨rfl, by omega⟩) (by decide) (by decide)
  · refine lv_iload_n hx hb dX10_told_12 rfl (lv_at hl 3 rfl) ?_
    refine zc_Si (As := [.int (iZ (y2))]) (rest := []) (wr := (pw NP ad G)) ⟨hx, hb, hml, hown, hts⟩ (c_isPart l D cI cJ cE cF cR y2 hy2) (va_cwS 1 hts gX10_told_X10_isPart rfl rfl rfl (by decide +kernel) ⟨Nat.le_of_ble_eq_true rfl, Nat.le_of_ble_eq_true rfl⟩) hN hK hP hD hS hA [] (List.range NP) rfl (pw_all _ _ _) rfl (pw_nd _) (fun _ _ h9 => nomatch h9) rfl hl.1 (Nat.le_of_ble_eq_true rfl) dX10_told_13 ⟨by decide, by decide⟩ (fun q13 w1 H locs hz13 hp hP hD hS => ?_)
    obtain ⟨hw9, hh13⟩ := hp
    subst hw9
    rw [List.append_nil] at hP hD
    refine zr_if_ne hx hb 29 ⟨by omega, by omega⟩ dX10_told_16 (by decide) (fun h_16 => ?_) (fun h_16 => ?_)
    · refine lv_aload_n hx hb dX10_told_29 rfl (lv_at hl 0 rfl) ?_
      refine va_get (D := D) (ci := 10) (v := .ref (ad 2)) (C := RX10) (T := TX10) (N := 6) hx hb hts hin10 hown hK hP (1) (pw_at (by omega) (hso)) rfl 0 (by decide) q_f_RX10_12_equations_LEquations (fun _ h9 => h9) rfl dX10_told_30 ?_
      refine lv_iload_n hx hb dX10_told_33 rfl (lv_at hl 1 rfl) ?_
      refine lv_iload_n hx hb dX10_told_34 rfl (lv_at hl 2 rfl) ?_
      refine lv_aload_n hx hb dX10_told_35 rfl (lv_at hl 0 rfl) ?_
      refine va_get (D := D) (ci := 10) (v := .ref (ad 475)) (C := RX10) (T := TX10) (N := 6) hx hb hts hin10 hown hK hP (1) (pw_at (by omega) (hso)) rfl 3 (by decide) q_f_RX10_35_shown_LFraction (fun _ h9 => h9) rfl dX10_told_36 ?_
      rw [congrArg iZ (show y4 = ((y4.toNat : Nat) : Int) by omega), congrArg iZ (show y1 = ((y1.toNat : Nat) : Int) by omega)]
      refine zc_Vv (As := [.int (iZ (((y1.toNat : Nat) : Int))), .int (iZ (((y4.toNat : Nat) : Int))), .ref (ad 475)]) (rest := []) (wr := []) ⟨hx, hb, hml, hown, hts⟩ (p_show l D cI cJ cE cF cR NP ad G n y1.toNat y4.toNat 475 2 V hQ9 hsh (by omega) (by omega) hn (by decide) (by decide) (by decide) (by omega)) (cwV 3 hts gX10_told_X4_show rfl rfl rfl (by decide +kernel) ⟨Nat.le_of_ble_eq_true rfl, Nat.le_of_ble_eq_true rfl⟩) hN hK hP hD hS hA (List.range NP) [] (pw_all _ _ _) rfl (pw_nd _) rfl (fun _ h9 => nomatch h9) (q0 := 2) (ci := 4) rfl rfl (pw_at (by omega) (hQ9.1)) rfl hl.1 (Nat.le_of_ble_eq_true rfl) dX10_told_39 ⟨by decide, by decide⟩ (fun w1 H locs hp hP hD hS => ?_)
      obtain ⟨G2, rfl, hf2, ho2⟩ := hp
      have hP : va_P D vwCl (pw NP ad G2) H := hP
      have hD : va_D A (pw NP ad G2) := hD
      have k39_0 : G2 (1) = .inr (10, [.ref (ad 2), .ref (ad 5), .ref (ad 473), .ref (ad 475), .int (iZ (wd)), .int (iZ (el))]) := (ho2 (1) (by omega) (by omega) (by omega) (by omega) (by omega)).trans (hso)
      have k39_1 : G2 (2) = .inr (4, [.ref (ad 3), .ref (ad 4), .int (iZ (((n : Nat) : Int)))]) := (ho2 (2) (by omega) (by omega) (by omega) (by omega) (by omega)).trans (hQ9.1)
      refine lv_aload_n hx hb dX10_told_42 rfl (lv_at hl 0 rfl) ?_
      refine va_get (D := D) (ci := 10) (v := .ref (ad 475)) (C := RX10) (T := TX10) (N := 6) hx hb hts hin10 hown hK hP (1) (pw_at (by omega) (k39_0)) rfl 3 (by decide) q_f_RX10_35_shown_LFraction (fun _ h9 => h9) rfl dX10_told_43 ?_
      refine lv_iload_n hx hb dX10_told_46 rfl (lv_at hl 3 rfl) ?_
      refine lv_iload hx hb dX10_told_47 (lv_at hl 4 rfl) ?_
      refine zc_Vi (As := [.int (iZ (y2)), .int (iZ (y3))]) (rest := []) (wr := []) ⟨hx, hb, hml, hown, hts⟩ (p_ftell l D cI cJ cE cF cR NP ad G2 475 2 (V (7 * y1.toNat + y4.toNat)) y2 y3 hf2 hy2 hy3 (by decide) (by omega)) (cwV 2 hts gX10_told_X6_tell rfl rfl rfl (by decide +kernel) ⟨Nat.le_of_ble_eq_true rfl, Nat.le_of_ble_eq_true rfl⟩) hN hK hP hD hS hA (List.range NP) [] (pw_all _ _ _) rfl (pw_nd _) rfl (fun _ h9 => nomatch h9) (q0 := 475) (ci := 6) rfl rfl (pw_at (by omega) (hf2.1)) rfl hl.1 (Nat.le_of_ble_eq_true rfl) dX10_told_49 ⟨by decide, by decide⟩ (fun q49 w1 H locs hz49 hp hP hD hS => ?_)
      obtain ⟨G9, rfl, hr0, ho9⟩ := hp
      obtain rfl : G2 = G9 := (funext ho9).symm
      have hP : va_P D vwCl (pw NP ad G2) H := hP
      have hD : va_D A (pw NP ad G2) := hD
      rw [hQ]
      exact vx_ret (zr_iret rfl hx hb hr hlk dX10_told_52 hK hP hD hS (by omega) (by omega) hz49 (⟨G2, rfl, by omega, hr0, hC9.keep (hwk.keep (fun i q => ho2 i (by omega) (by omega) (by omega) (by omega) (by omega))) (by rw [ho2 474 (by decide) (by decide) (by decide) (by decide) (by decide)]; exact hsq) hf2.has (fun i q => ho2 i (by omega) (by omega) (by omega) (by omega) (by omega)), fun i9 q => ho2 i9 (by omega) (by omega) (by omega) (by omega) (by omega)⟩))
    · exact zr_throw (text := "there is no such cell or part") hQ hx hb hst hown (by decide) q_classLink_RX10_64_java_lang_IndexOutOfBoundsExcept q_initialized_java_lang_IndexOutOfBoundsException hX9 (by decide) (fun w9 h9 => hts w9 (by unfold wsX10_told; exact List.mem_cons_of_mem _ (List.mem_append_right _ h9))) (by decide +kernel) (by decide +kernel) hK hP hD hS (hl.1.trans hml.symm) dX10_told_19 dX10_told_22 dX10_told_23 dX10_told_25 dX10_told_28 hno (by decide) (Nat.le_of_ble_eq_true rfl) (by decide) (by decide) hlk (⟨rfl, by omega⟩) (by decide) (by decide)

set_option maxHeartbeats 4000000 in
set_option maxRecDepth 100000 in
/-- LimbSolver.isRight -/
theorem p_isRight (l : Launch) (D : va_G) (cI cJ cE cF cR : ClassId) (hst : l.stackTraces = false) (NP : Nat) (ad : Nat → Nat) (G : Nat → va_E) (y1 : Int) (V : Nat → Rat) (n : Nat) (wd el : Int) (hC9 : pCs cI cJ cE cF cR NP ad G V n wd el) (hNP : 480 ≤ NP) (hy1 : iR y1) : Xi l D (zty cI cJ cE cF cR) yX10_isRight wsX10_isRight ({ frames := 7, cells := 1, slots := 6, locals := 220 } : Room) 1 6 [.ref (ad 1), .int (iZ (y1))] (pw NP ad G) (fun z9 w1 => ∃ G1 : Nat → va_E, w1 = pw NP ad G1 ∧ ¬ (y1 < 0 ∨ (n : Int) ≤ y1) ∧ ¬ (el = 0 ∨ pe_svk (peM (pe V n n)) n (peR (pe V n n)) (n - peR (pe V n n)) = 0) ∧ z9 = (if pe_rs V (pe V n n) n y1.toNat n = V (7 * y1.toNat + n) then 1 else 0) ∧ pCs cI cJ cE cF cR NP ad G1 V n wd el ∧ ∀ i9 : Nat, i9 = 0 ∨ 480 ≤ i9 → G1 i9 = G i9) (fun E => (E = "java/lang/IndexOutOfBoundsException" ∧ (y1 < 0 ∨ (n : Int) ≤ y1)) ∨ (E = "java/lang/IllegalStateException" ∧ ¬ (y1 < 0 ∨ (n : Int) ≤ y1) ∧ (el = 0 ∨ pe_svk (peM (pe V n n)) n (peR (pe V n n)) (n - peR (pe V n n)) = 0))) := by
  unfold Xi
  refine zsX (Qc := zQi D _ _) (cc := cX10_isRight) (maxL := 2) (ret := (some .boolean)) (by decide) rfl (Nat.le_of_ble_eq_true rfl) ?_
  intro zp ze s zm below meth zc ls A args Q hQ hx hb hr hts hown hlk hml hnm hN hX9 hno hA hK hP hD hS hl
  have q_f_RX10_12_equations_LEquations := hts (.fieldLink RX10 12 "LimbSolver" "equations" "LLimbSolver$Equations;") (by decide +kernel)
  have hin10 : ∀ w ∈ wsX100, w ∈ wsX10_isRight := by decide +kernel
  have q_f_RX10_43_eliminated_Z := hts (.fieldLink RX10 43 "LimbSolver" "eliminated" "Z") (by decide +kernel)
  have q_f_RX10_19_work_LElimination := hts (.fieldLink RX10 19 "LimbSolver" "work" "LLimbSolver$Elimination;") (by decide +kernel)
  have hin2 : ∀ w ∈ wsX20, w ∈ wsX10_isRight := by decide +kernel
  have q_classLink_RX10_98_java_lang_IllegalStateException := hts (.classLink RX10 98 "java/lang/IllegalStateException") (by decide +kernel)
  have q_initialized_java_lang_IllegalStateException := hts (.initialized "java/lang/IllegalStateException") (by decide +kernel)
  have q_classLink_RX10_64_java_lang_IndexOutOfBoundsExcept := hts (.classLink RX10 64 "java/lang/IndexOutOfBoundsException") (by decide +kernel)
  have q_initialized_java_lang_IndexOutOfBoundsException := hts (.initialized "java/lang/IndexOutOfBoundsException") (by decide +kernel)
  have hl : lv_has ls 2 [(0, .ref (ad 1)), (1, .int (iZ (y1)))] := hl
  obtain ⟨hso, ⟨h1n, hn, hT⟩, hQ9, ⟨hsh, hre, hsq⟩, ρ, PR, ⟨hst9, hwk, hHb, hpr, L8, n8, tn8, pv8, ml8, sv8, hel8⟩, hrun⟩ := id hC9
  have hel01 : el = 0 ∨ el = 1 := by rcases hrun with ⟨_, q⟩ | ⟨_, q, _⟩; exact Or.inl q; exact q
  have hy11 := hy1.1
  have hy12 := hy1.2
  by_cases hel1 : el = 1
  · have hrn : pRn cI NP ad G ρ PR n V := by rcases hrun with ⟨_, q⟩ | ⟨_, _, q⟩; omega; exact q
    obtain ⟨L9, rl, hel9, hPR, hRw, hL, hL9, hun, hvo⟩ := hrn
    have hVn := pe_ok hT h1n hn n (Nat.le_refl n)
    have hrN := hVn.1.2.1
    refine lv_aload_n hx hb dX10_isRight_0 rfl (lv_at hl 0 rfl) ?_
    refine va_get (D := D) (ci := 10) (v := .ref (ad 2)) (C := RX10) (T := TX10) (N := 6) hx hb hts hin10 hown hK hP (1) (pw_at (by omega) (hso)) rfl 0 (by decide) q_f_RX10_12_equations_LEquations (fun _ h9 => h9) rfl dX10_isRight_1 ?_
    refine lv_iload_n hx hb dX10_isRight_4 rfl (lv_at hl 1 rfl) ?_
    refine zc_Vi (As := [.int (iZ (y1))]) (rest := []) (wr := []) ⟨hx, hb, hml, hown, hts⟩ (p_hasRow l D cI cJ cE cF cR NP ad G n V hQ9 y1 hy1 hn (by omega)) (cwV 1 hts gX10_isRight_X4_hasRow rfl rfl rfl (by decide +kernel) ⟨Nat.le_of_ble_eq_true rfl, Nat.le_of_ble_eq_true rfl⟩) hN hK hP hD hS hA (List.range NP) [] (pw_all _ _ _) rfl (pw_nd _) rfl (fun _ h9 => nomatch h9) (q0 := 2) (ci := 4) rfl rfl (pw_at (by omega) (hQ9.1)) rfl hl.1 (Nat.le_of_ble_eq_true rfl) dX10_isRight_5 ⟨by decide, by decide⟩ (fun q5 w1 H locs hz5 hp hP hD hS => ?_)
    obtain ⟨G9, rfl, hr0, ho9⟩ := hp
    obtain rfl : G = G9 := (funext ho9).symm
    have hh5 : ((0 ≤ y1 ∧ y1 < (n : Int)) ∧ q5 = 1) ∨ (¬ (0 ≤ y1 ∧ y1 < (n : Int)) ∧ q5 = 0) := by rw [hr0]; by_cases w : (0 ≤ y1 ∧ y1 < (n : Int)); (rw [if_pos w]; exact Or.inl ⟨w, rfl⟩); (rw [if_neg w]; exact Or.inr ⟨w, rfl⟩)
    have hP : va_P D vwCl (pw NP ad G) H := hP
    have hD : va_D A (pw NP ad G) := hD
    refine zr_if_ne hx hb 21 ⟨by omega, by omega⟩ dX10_isRight_8 (by decide) (fun h_8 => ?_) (fun h_8 => ?_)
    · refine lv_aload_n hx hb dX10_isRight_21 rfl (lv_at hl 0 rfl) ?_
      refine va_get (D := D) (ci := 10) (v := .int (iZ (el))) (C := RX10) (T := TX10) (N := 6) hx hb hts hin10 hown hK hP (1) (pw_at (by omega) (hso)) rfl 5 (by decide) q_f_RX10_43_eliminated_Z (fun _ h9 => h9) rfl dX10_isRight_22 ?_
      refine zr_if_eq hx hb 38 ⟨by omega, by omega⟩ dX10_isRight_25 (by decide) (fun h_25 => ?_) (fun h_25 => ?_)
      · exfalso; omega
      · refine lv_aload_n hx hb dX10_isRight_28 rfl (lv_at hl 0 rfl) ?_
        refine va_get (D := D) (ci := 10) (v := .ref (ad 5)) (C := RX10) (T := TX10) (N := 6) hx hb hts hin10 hown hK hP (1) (pw_at (by omega) (hso)) rfl 1 (by decide) q_f_RX10_19_work_LElimination (fun _ h9 => h9) rfl dX10_isRight_29 ?_
        refine va_getN (D := D) (ci := 2) (v := .int (iZ (pe_svk (peM (pe V n n)) n (peR (pe V n n)) (n - peR (pe V n n))))) (C := RX2) (T := TX2) (N := 17) hx hb hts hin2 hown hK hP (5) (pw_at (by omega) (hel9)) rfl 16 (by decide) (hN.F 27 rfl) (fun _ h9 => h9) rfl dX10_isRight_32 ?_
        refine zr_if_ne hx hb 48 ((by rcases pe_svk01 (peM (pe V n n)) n (peR (pe V n n)) (n - peR (pe V n n)) with h | h <;> rw [h] <;> decide)) dX10_isRight_35 (by decide) (fun h_35 => ?_) (fun h_35 => ?_)
        · refine lv_aload_n hx hb dX10_isRight_48 rfl (lv_at hl 0 rfl) ?_
          refine va_get (D := D) (ci := 10) (v := .ref (ad 5)) (C := RX10) (T := TX10) (N := 6) hx hb hts hin10 hown hK hP (1) (pw_at (by omega) (hso)) rfl 1 (by decide) q_f_RX10_19_work_LElimination (fun _ h9 => h9) rfl dX10_isRight_49 ?_
          refine lv_aload_n hx hb dX10_isRight_52 rfl (lv_at hl 0 rfl) ?_
          refine va_get (D := D) (ci := 10) (v := .ref (ad 2)) (C := RX10) (T := TX10) (N := 6) hx hb hts hin10 hown hK hP (1) (pw_at (by omega) (hso)) rfl 0 (by decide) q_f_RX10_12_equations_LEquations (fun _ h9 => h9) rfl dX10_isRight_53 ?_
          refine lv_iload_n hx hb dX10_isRight_56 rfl (lv_at hl 1 rfl) ?_
          rw [congrArg iZ (show y1 = ((y1.toNat : Nat) : Int) by omega)]
          refine zc_Vi (As := [.ref (ad 2), .int (iZ (((y1.toNat : Nat) : Int)))]) (rest := []) (wr := []) ⟨hx, hb, hml, hown, hts⟩ (p_holds l D cI cJ cE cF cR NP ad G L9 n y1.toNat rl (peT (pe V n n)) (((peR (pe V n n) : Nat) : Int)) (((peH (pe V n n) : Nat) : Int)) (pe_svk (peM (pe V n n)) n (peR (pe V n n)) (n - peR (pe V n n))) V ρ PR hel9 hst9 hwk hpr hPR hRw hL hL9 hQ9 hT hVn (by omega) hn hNP) (cwV 2 hts gX10_isRight_X2_holds rfl rfl rfl (by decide +kernel) ⟨Nat.le_of_ble_eq_true rfl, Nat.le_of_ble_eq_true rfl⟩) hN hK hP hD hS hA (List.range NP) [] (pw_all _ _ _) rfl (pw_nd _) rfl (fun _ h9 => nomatch h9) (q0 := 5) (ci := 2) rfl rfl (pw_at (by omega) (hel9)) rfl hl.1 (Nat.le_of_ble_eq_true rfl) dX10_isRight_57 ⟨by decide, by decide⟩ (fun q57 w1 H locs hz57 hp hP hD hS => ?_)
          obtain ⟨G2, rfl, hr0, hw2, ho2⟩ := hp
          have hP : va_P D vwCl (pw NP ad G2) H := hP
          have hD : va_D A (pw NP ad G2) := hD
          rw [hQ]
          exact vx_ret (zr_zret rfl hx hb hr hlk dX10_isRight_60 hK hP hD hS (by omega) (by omega) (by rw [hr0]; split <;> omega) (⟨G2, rfl, by omega, by omega, hr0, hC9.keep hw2 (by rw [ho2 474 (by omega)]; exact hsq) (hsh.keep (fun i _ _ => ho2 i (by omega))) (fun i q => ho2 i (by omega)), fun i9 q => ho2 i9 (by omega)⟩))
        · exact zr_throw (text := "it is not eliminated or not solvable") hQ hx hb hst hown (by decide) q_classLink_RX10_98_java_lang_IllegalStateException q_initialized_java_lang_IllegalStateException hX9 (by decide) (fun w9 h9 => hts w9 (by unfold wsX10_isRight; exact List.mem_cons_of_mem _ (List.mem_append_right _ h9))) (by decide +kernel) (by decide +kernel) hK hP hD hS (hl.1.trans hml.symm) dX10_isRight_38 dX10_isRight_41 dX10_isRight_42 dX10_isRight_44 dX10_isRight_47 hno (by decide) (Nat.le_of_ble_eq_true rfl) (by decide) (by decide) hlk (Or.inr ⟨rfl, by omega, by omega⟩) (by decide) (by decide)
    · exact zr_throw (text := "there is no such row") hQ hx hb hst hown (by decide) q_classLink_RX10_64_java_lang_IndexOutOfBoundsExcept q_initialized_java_lang_IndexOutOfBoundsException hX9 (by decide) (fun w9 h9 => hts w9 (by unfold wsX10_isRight; exact List.mem_cons_of_mem _ (List.mem_append_left _ (List.mem_append_right _ h9)))) (by decide +kernel) (by decide +kernel) hK hP hD hS (hl.1.trans hml.symm) dX10_isRight_11 dX10_isRight_14 dX10_isRight_15 dX10_isRight_17 dX10_isRight_20 hno (by decide) (Nat.le_of_ble_eq_true rfl) (by decide) (by decide) hlk (Or.inl ⟨rfl, by omega⟩) (by decide) (by decide)
  · refine lv_aload_n hx hb dX10_isRight_0 rfl (lv_at hl 0 rfl) ?_
    refine va_get (D := D) (ci := 10) (v := .ref (ad 2)) (C := RX10) (T := TX10) (N := 6) hx hb hts hin10 hown hK hP (1) (pw_at (by omega) (hso)) rfl 0 (by decide) q_f_RX10_12_equations_LEquations (fun _ h9 => h9) rfl dX10_isRight_1 ?_
    refine lv_iload_n hx hb dX10_isRight_4 rfl (lv_at hl 1 rfl) ?_
    refine zc_Vi (As := [.int (iZ (y1))]) (rest := []) (wr := []) ⟨hx, hb, hml, hown, hts⟩ (p_hasRow l D cI cJ cE cF cR NP ad G n V hQ9 y1 hy1 hn (by omega)) (cwV 1 hts gX10_isRight_X4_hasRow rfl rfl rfl (by decide +kernel) ⟨Nat.le_of_ble_eq_true rfl, Nat.le_of_ble_eq_true rfl⟩) hN hK hP hD hS hA (List.range NP) [] (pw_all _ _ _) rfl (pw_nd _) rfl (fun _ h9 => nomatch h9) (q0 := 2) (ci := 4) rfl rfl (pw_at (by omega) (hQ9.1)) rfl hl.1 (Nat.le_of_ble_eq_true rfl) dX10_isRight_5 ⟨by decide, by decide⟩ (fun q5 w1 H locs hz5 hp hP hD hS => ?_)
    obtain ⟨G9, rfl, hr0, ho9⟩ := hp
    obtain rfl : G = G9 := (funext ho9).symm
    have hh5 : ((0 ≤ y1 ∧ y1 < (n : Int)) ∧ q5 = 1) ∨ (¬ (0 ≤ y1 ∧ y1 < (n : Int)) ∧ q5 = 0) := by rw [hr0]; by_cases w : (0 ≤ y1 ∧ y1 < (n : Int)); (rw [if_pos w]; exact Or.inl ⟨w, rfl⟩); (rw [if_neg w]; exact Or.inr ⟨w, rfl⟩)
    have hP : va_P D vwCl (pw NP ad G) H := hP
    have hD : va_D A (pw NP ad G) := hD
    refine zr_if_ne hx hb 21 ⟨by omega, by omega⟩ dX10_isRight_8 (by decide) (fun h_8 => ?_) (fun h_8 => ?_)
    · refine lv_aload_n hx hb dX10_isRight_21 rfl (lv_at hl 0 rfl) ?_
      refine va_get (D := D) (ci := 10) (v := .int (iZ (el))) (C := RX10) (T := TX10) (N := 6) hx hb hts hin10 hown hK hP (1) (pw_at (by omega) (hso)) rfl 5 (by decide) q_f_RX10_43_eliminated_Z (fun _ h9 => h9) rfl dX10_isRight_22 ?_
      refine zr_if_eq hx hb 38 ⟨by omega, by omega⟩ dX10_isRight_25 (by decide) (fun h_25 => ?_) (fun h_25 => ?_)
      · exact zr_throw (text := "it is not eliminated or not solvable") hQ hx hb hst hown (by decide) q_classLink_RX10_98_java_lang_IllegalStateException q_initialized_java_lang_IllegalStateException hX9 (by decide) (fun w9 h9 => hts w9 (by unfold wsX10_isRight; exact List.mem_cons_of_mem _ (List.mem_append_right _ h9))) (by decide +kernel) (by decide +kernel) hK hP hD hS (hl.1.trans hml.symm) dX10_isRight_38 dX10_isRight_41 dX10_isRight_42 dX10_isRight_44 dX10_isRight_47 hno (by decide) (Nat.le_of_ble_eq_true rfl) (by decide) (by decide) hlk (Or.inr ⟨rfl, by omega, by omega⟩) (by decide) (by decide)
      · exfalso; omega
    · exact zr_throw (text := "there is no such row") hQ hx hb hst hown (by decide) q_classLink_RX10_64_java_lang_IndexOutOfBoundsExcept q_initialized_java_lang_IndexOutOfBoundsException hX9 (by decide) (fun w9 h9 => hts w9 (by unfold wsX10_isRight; exact List.mem_cons_of_mem _ (List.mem_append_left _ (List.mem_append_right _ h9)))) (by decide +kernel) (by decide +kernel) hK hP hD hS (hl.1.trans hml.symm) dX10_isRight_11 dX10_isRight_14 dX10_isRight_15 dX10_isRight_17 dX10_isRight_20 hno (by decide) (Nat.le_of_ble_eq_true rfl) (by decide) (by decide) hlk (Or.inl ⟨rfl, by omega⟩) (by decide) (by decide)
