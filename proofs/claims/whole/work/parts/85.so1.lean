set_option maxHeartbeats 4000000 in
set_option maxRecDepth 100000 in
/-- LimbSolver.isSolvable -/
theorem p_isSolvable (l : Launch) (D : va_G) (cI cJ cE cF cR : ClassId) (hst : l.stackTraces = false) (NP : Nat) (ad : Nat → Nat) (G : Nat → va_E) (V : Nat → Rat) (n : Nat) (wd el : Int) (hC9 : pCs cI cJ cE cF cR NP ad G V n wd el) (hNP : 480 ≤ NP) : Xi l D (zty cI cJ cE cF cR) yX10_isSolvable wsX10_isSolvable ({ frames := 6, cells := 1, slots := 6, locals := 90 } : Room) 1 6 [.ref (ad 1)] (pw NP ad G) (fun z9 w1 => ∃ G1 : Nat → va_E, w1 = pw NP ad G1 ∧ el = 1 ∧ z9 = pe_svk (peM (pe V n n)) n (peR (pe V n n)) (n - peR (pe V n n)) ∧ ∀ i9 : Nat, G1 i9 = G i9) (fun E => E = "java/lang/IllegalStateException" ∧ el = 0) := by
  unfold Xi
  refine zsX (Qc := zQi D _ _) (cc := cX10_isSolvable) (maxL := 1) (ret := (some .boolean)) (by decide) rfl (Nat.le_of_ble_eq_true rfl) ?_
  intro zp ze s zm below meth zc ls A args Q hQ hx hb hr hts hown hlk hml hnm hN hX9 hno hA hK hP hD hS hl
  have q_f_RX10_43_eliminated_Z := hts (.fieldLink RX10 43 "LimbSolver" "eliminated" "Z") (by decide +kernel)
  have hin10 : ∀ w ∈ wsX100, w ∈ wsX10_isSolvable := by decide +kernel
  have q_f_RX10_19_work_LElimination := hts (.fieldLink RX10 19 "LimbSolver" "work" "LLimbSolver$Elimination;") (by decide +kernel)
  have hin2 : ∀ w ∈ wsX20, w ∈ wsX10_isSolvable := by decide +kernel
  have q_classLink_RX10_98_java_lang_IllegalStateException := hts (.classLink RX10 98 "java/lang/IllegalStateException") (by decide +kernel)
  have q_initialized_java_lang_IllegalStateException := hts (.initialized "java/lang/IllegalStateException") (by decide +kernel)
  have hl : lv_has ls 1 [(0, .ref (ad 1))] := hl
  obtain ⟨hso, ⟨h1n, hn, hT⟩, hQ9, ⟨hsh, hre, hsq⟩, ρ, PR, ⟨hst9, hwk, hHb, hpr, L8, n8, tn8, pv8, ml8, sv8, hel8⟩, hrun⟩ := id hC9
  have hel01 : el = 0 ∨ el = 1 := by rcases hrun with ⟨_, q⟩ | ⟨_, q, _⟩; exact Or.inl q; exact q
  by_cases hel1 : el = 1
  · have hrn : pRn cI NP ad G ρ PR n V := by rcases hrun with ⟨_, q⟩ | ⟨_, _, q⟩; omega; exact q
    obtain ⟨L9, rl, hel9, hPR, hRw, hL, hL9, hun, hvo⟩ := hrn
    have hVn := pe_ok hT h1n hn n (Nat.le_refl n)
    have hrN := hVn.1.2.1
    refine lv_aload_n hx hb dX10_isSolvable_0 rfl (lv_at hl 0 rfl) ?_
    refine va_get (D := D) (ci := 10) (v := .int (iZ (el))) (C := RX10) (T := TX10) (N := 6) hx hb hts hin10 hown hK hP (1) (pw_at (by omega) (hso)) rfl 5 (by decide) q_f_RX10_43_eliminated_Z (fun _ h9 => h9) rfl dX10_isSolvable_1 ?_
    refine zr_if_ne hx hb 17 ⟨by omega, by omega⟩ dX10_isSolvable_4 (by decide) (fun h_4 => ?_) (fun h_4 => ?_)
    · refine lv_aload_n hx hb dX10_isSolvable_17 rfl (lv_at hl 0 rfl) ?_
      refine va_get (D := D) (ci := 10) (v := .ref (ad 5)) (C := RX10) (T := TX10) (N := 6) hx hb hts hin10 hown hK hP (1) (pw_at (by omega) (hso)) rfl 1 (by decide) q_f_RX10_19_work_LElimination (fun _ h9 => h9) rfl dX10_isSolvable_18 ?_
      refine va_getN (D := D) (ci := 2) (v := .int (iZ (pe_svk (peM (pe V n n)) n (peR (pe V n n)) (n - peR (pe V n n))))) (C := RX2) (T := TX2) (N := 17) hx hb hts hin2 hown hK hP (5) (pw_at (by omega) (hel9)) rfl 16 (by decide) (hN.F 27 rfl) (fun _ h9 => h9) rfl dX10_isSolvable_21 ?_
      rw [hQ]
      exact vx_ret (zr_zret rfl hx hb hr hlk dX10_isSolvable_24 hK hP hD hS (by omega) (by omega) ((pe_svk01 _ _ _ _)) (⟨G, rfl, hel1, rfl, fun _ => rfl⟩))
    · exfalso; omega
  · refine lv_aload_n hx hb dX10_isSolvable_0 rfl (lv_at hl 0 rfl) ?_
    refine va_get (D := D) (ci := 10) (v := .int (iZ (el))) (C := RX10) (T := TX10) (N := 6) hx hb hts hin10 hown hK hP (1) (pw_at (by omega) (hso)) rfl 5 (by decide) q_f_RX10_43_eliminated_Z (fun _ h9 => h9) rfl dX10_isSolvable_1 ?_
    refine zr_if_ne hx hb 17 ⟨by omega, by omega⟩ dX10_isSolvable_4 (by decide) (fun h_4 => ?_) (fun h_4 => ?_)
    · exfalso; omega
    · exact zr_throw (text := "it is not eliminated") hQ hx hb hst hown (by decide) q_classLink_RX10_98_java_lang_IllegalStateException q_initialized_java_lang_IllegalStateException hX9 (by decide) (fun w9 h9 => hts w9 (by unfold wsX10_isSolvable; exact List.mem_cons_of_mem _ (List.mem_append_right _ h9))) (by decide +kernel) (by decide +kernel) hK hP hD hS (hl.1.trans hml.symm) dX10_isSolvable_7 dX10_isSolvable_10 dX10_isSolvable_11 dX10_isSolvable_13 dX10_isSolvable_16 hno (by decide) (Nat.le_of_ble_eq_true rfl) (by decide) (by decide) hlk (⟨rfl, by omega⟩) (by decide) (by decide)

set_option maxHeartbeats 4000000 in
set_option maxRecDepth 100000 in
/-- LimbSolver.most -/
theorem p_most (l : Launch) (D : va_G) (cI cJ cE cF cR : ClassId) (hst : l.stackTraces = false) (NP : Nat) (ad : Nat → Nat) (G : Nat → va_E) (V : Nat → Rat) (n : Nat) (wd el : Int) (hC9 : pCs cI cJ cE cF cR NP ad G V n wd el) (hNP : 480 ≤ NP) (hpH : peH (pe V n n) ≤ 2147483647) : Xi l D (zty cI cJ cE cF cR) yX10_most wsX10_most ({ frames := 6, cells := 1, slots := 6, locals := 90 } : Room) 1 6 [.ref (ad 1)] (pw NP ad G) (fun z9 w1 => ∃ G1 : Nat → va_E, w1 = pw NP ad G1 ∧ el = 1 ∧ z9 = ((peH (pe V n n) : Nat) : Int) ∧ ∀ i9 : Nat, G1 i9 = G i9) (fun E => E = "java/lang/IllegalStateException" ∧ el = 0) := by
  unfold Xi
  refine zsX (Qc := zQi D _ _) (cc := cX10_most) (maxL := 1) (ret := (some .int)) (by decide) rfl (Nat.le_of_ble_eq_true rfl) ?_
  intro zp ze s zm below meth zc ls A args Q hQ hx hb hr hts hown hlk hml hnm hN hX9 hno hA hK hP hD hS hl
  have q_f_RX10_43_eliminated_Z := hts (.fieldLink RX10 43 "LimbSolver" "eliminated" "Z") (by decide +kernel)
  have hin10 : ∀ w ∈ wsX100, w ∈ wsX10_most := by decide +kernel
  have q_f_RX10_19_work_LElimination := hts (.fieldLink RX10 19 "LimbSolver" "work" "LLimbSolver$Elimination;") (by decide +kernel)
  have hin2 : ∀ w ∈ wsX20, w ∈ wsX10_most := by decide +kernel
  have q_classLink_RX10_98_java_lang_IllegalStateException := hts (.classLink RX10 98 "java/lang/IllegalStateException") (by decide +kernel)
  have q_initialized_java_lang_IllegalStateException := hts (.initialized "java/lang/IllegalStateException") (by decide +kernel)
  have hl : lv_has ls 1 [(0, .ref (ad 1))] := hl
  obtain ⟨hso, ⟨h1n, hn, hT⟩, hQ9, ⟨hsh, hre, hsq⟩, ρ, PR, ⟨hst9, hwk, hHb, hpr, L8, n8, tn8, pv8, ml8, sv8, hel8⟩, hrun⟩ := id hC9
  have hel01 : el = 0 ∨ el = 1 := by rcases hrun with ⟨_, q⟩ | ⟨_, q, _⟩; exact Or.inl q; exact q
  by_cases hel1 : el = 1
  · have hrn : pRn cI NP ad G ρ PR n V := by rcases hrun with ⟨_, q⟩ | ⟨_, _, q⟩; omega; exact q
    obtain ⟨L9, rl, hel9, hPR, hRw, hL, hL9, hun, hvo⟩ := hrn
    have hVn := pe_ok hT h1n hn n (Nat.le_refl n)
    have hrN := hVn.1.2.1
    refine lv_aload_n hx hb dX10_most_0 rfl (lv_at hl 0 rfl) ?_
    refine va_get (D := D) (ci := 10) (v := .int (iZ (el))) (C := RX10) (T := TX10) (N := 6) hx hb hts hin10 hown hK hP (1) (pw_at (by omega) (hso)) rfl 5 (by decide) q_f_RX10_43_eliminated_Z (fun _ h9 => h9) rfl dX10_most_1 ?_
    refine zr_if_ne hx hb 17 ⟨by omega, by omega⟩ dX10_most_4 (by decide) (fun h_4 => ?_) (fun h_4 => ?_)
    · refine lv_aload_n hx hb dX10_most_17 rfl (lv_at hl 0 rfl) ?_
      refine va_get (D := D) (ci := 10) (v := .ref (ad 5)) (C := RX10) (T := TX10) (N := 6) hx hb hts hin10 hown hK hP (1) (pw_at (by omega) (hso)) rfl 1 (by decide) q_f_RX10_19_work_LElimination (fun _ h9 => h9) rfl dX10_most_18 ?_
      refine va_getN (D := D) (ci := 2) (v := .int (iZ (((peH (pe V n n) : Nat) : Int)))) (C := RX2) (T := TX2) (N := 17) hx hb hts hin2 hown hK hP (5) (pw_at (by omega) (hel9)) rfl 15 (by decide) (hN.F 26 rfl) (fun _ h9 => h9) rfl dX10_most_21 ?_
      rw [hQ]
      exact vx_ret (zr_iret rfl hx hb hr hlk dX10_most_24 hK hP hD hS (by omega) (by omega) ⟨by omega, by omega⟩ (⟨G, rfl, hel1, rfl, fun _ => rfl⟩))
    · exfalso; omega
  · refine lv_aload_n hx hb dX10_most_0 rfl (lv_at hl 0 rfl) ?_
    refine va_get (D := D) (ci := 10) (v := .int (iZ (el))) (C := RX10) (T := TX10) (N := 6) hx hb hts hin10 hown hK hP (1) (pw_at (by omega) (hso)) rfl 5 (by decide) q_f_RX10_43_eliminated_Z (fun _ h9 => h9) rfl dX10_most_1 ?_
    refine zr_if_ne hx hb 17 ⟨by omega, by omega⟩ dX10_most_4 (by decide) (fun h_4 => ?_) (fun h_4 => ?_)
    · exfalso; omega
    · exact zr_throw (text := "it is not eliminated") hQ hx hb hst hown (by decide) q_classLink_RX10_98_java_lang_IllegalStateException q_initialized_java_lang_IllegalStateException hX9 (by decide) (fun w9 h9 => hts w9 (by unfold wsX10_most; exact List.mem_cons_of_mem _ (List.mem_append_right _ h9))) (by decide +kernel) (by decide +kernel) hK hP hD hS (hl.1.trans hml.symm) dX10_most_7 dX10_most_10 dX10_most_11 dX10_most_13 dX10_most_16 hno (by decide) (Nat.le_of_ble_eq_true rfl) (by decide) (by decide) hlk (⟨rfl, by omega⟩) (by decide) (by decide)
