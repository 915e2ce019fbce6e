
/-- what the elimination has found, for what was told -/
def pRn (cI : ClassId) (NP : Nat) (ad : Nat → Nat) (G : Nat → va_E) (ρ : Nat → Nat) (PR : Nat → Int) (n : Nat) (V : Nat → Rat) : Prop := ∃ L9 rl : Nat, G 5 = .inr (2, [.ref (ad 6), .ref (ad 33), .ref (ad 34), .ref (ad 35), .ref (ad 454), .ref (ad 459), .ref (ad 464), .ref (ad 466), .ref (ad 468), .ref (ad 470), .ref (ad 36), .ref (ad L9), .int (iZ (((n : Nat) : Int))), .int (iZ (peT (pe V n n))), .int (iZ (((peR (pe V n n) : Nat) : Int))), .int (iZ (((peH (pe V n n) : Nat) : Int))), .int (iZ (pe_svk (peM (pe V n n)) n (peR (pe V n n)) (n - peR (pe V n n))))]) ∧ (∀ j9 : Nat, j9 < n → PR j9 = peP (pe V n n) j9) ∧ (∀ i9 : Nat, i9 < n → pRw cI ad G (ρ i9) n (n) (peE (pe V n n) i9) (peM (pe V n n) i9) ((pe_sc V (peI (pe V n n) i9) (n + 1) : Nat) : Int) (if i9 < peR (pe V n n) then ((peC (pe V n n) i9 : Nat) : Int) else -1)) ∧ pEn cI ad G L9 rl (peL (pe V n n) (peR (pe V n n))) ∧ pLp NP L9 rl n ∧ (∀ c8 : Nat, c8 < n → pFr cI ad G (98 + 66 * c8) 46 ((fun c8 => if pe_svk (peM (pe V n n)) n (peR (pe V n n)) (n - peR (pe V n n)) = 0 then 0 else pe_x (pe V n n) n c8) c8)) ∧ pFr cI ad G 454 46 (if peR (pe V n n) = n then pe_dt (peM (pe V n n)) (peT (pe V n n)) n else 0)
/-- the class, its numbers 1 .. 479: what was told, whether it is worked out, whether it is eliminated -/
def pCs (cI cJ cE cF cR : ClassId) (NP : Nat) (ad : Nat → Nat) (G : Nat → va_E) (V : Nat → Rat) (n : Nat) (wd el : Int) : Prop := G 1 = .inr (10, [.ref (ad 2), .ref (ad 5), .ref (ad 473), .ref (ad 475), .int (iZ (wd)), .int (iZ (el))]) ∧ (1 ≤ n ∧ n ≤ 6 ∧ pe_T V n) ∧ pEq cJ ad G n V ∧ (pFh cI ad G 475 2 ∧ G 473 = .inr (7, [.ref (ad 474)]) ∧ ∃ Z : Nat → Int, G 474 = aI cI 36 Z) ∧ ∃ (ρ : Nat → Nat) (PR : Nat → Int), (pSt cE cF cR ad G ρ ∧ pWk cI ad G ∧ pHb cI ad G ∧ G 35 = aI cI 6 PR ∧ ∃ (L9 : Nat) (n0 tn pv ml sv : Int), G 5 = .inr (2, [.ref (ad 6), .ref (ad 33), .ref (ad 34), .ref (ad 35), .ref (ad 454), .ref (ad 459), .ref (ad 464), .ref (ad 466), .ref (ad 468), .ref (ad 470), .ref (ad 36), .ref (ad L9), .int (iZ (n0)), .int (iZ (tn)), .int (iZ (pv)), .int (iZ (ml)), .int (iZ (sv))])) ∧ ((wd = 0 ∧ el = 0) ∨ (wd = 1 ∧ (el = 0 ∨ el = 1) ∧ pRn cI NP ad G ρ PR n V))
set_option maxHeartbeats 4000000 in
set_option maxRecDepth 100000 in
/-- LimbSolver.isPart -/
theorem c_isPart (l : Launch) (D : va_G) (cI cJ cE cF cR : ClassId) (y2 : Int) (hy2 : iR y2) : Ci l D (zty cI cJ cE cF cR) yX10_isPart wsX10_isPart (zRm 0 0) 0 0 [.int (iZ (y2))] [] (fun r w1 => w1 = [] ∧ (((y2 < 0 ∨ 2 < y2) ∧ r = 0) ∨ (¬ (y2 < 0 ∨ 2 < y2) ∧ r = 1))) := by
  unfold Ci
  refine zs (Qc := zQi D _ _) (cc := cX10_isPart) (maxL := 1) (ret := (some .boolean)) (by decide) rfl (Nat.le_of_ble_eq_true rfl) ?_
  intro zp ze s zm below meth zc ls A args Q hQ hx hb hr hts hown hlk hml hnm hN hA hK hP hD hS hl
  have hl : lv_has ls 1 [(0, .int (iZ (y2)))] := hl
  refine lv_iload_n hx hb dX10_isPart_0 rfl (lv_at hl 0 rfl) ?_
  refine zr_if_lt hx hb 13 hy2 dX10_isPart_1 (by decide) (fun h_1 => ?_) (fun h_1 => ?_)
  · refine lv_iconst (v := iZ 0) hx hb dX10_isPart_13 rfl ?_
    exact zr_zret hQ hx hb hr hlk dX10_isPart_14 hK hP hD hS (by omega) (by omega) (by omega) (⟨rfl, Or.inl ⟨by omega, rfl⟩⟩)
  · refine lv_iload_n hx hb dX10_isPart_4 rfl (lv_at hl 0 rfl) ?_
    refine lv_iconst (v := iZ 2) hx hb dX10_isPart_5 rfl ?_
    refine zr_icmp_gt hx hb 13 hy2 (by decide) dX10_isPart_6 (by decide) (fun h_6 => ?_) (fun h_6 => ?_)
    · refine lv_iconst (v := iZ 0) hx hb dX10_isPart_13 rfl ?_
      exact zr_zret hQ hx hb hr hlk dX10_isPart_14 hK hP hD hS (by omega) (by omega) (by omega) (⟨rfl, Or.inl ⟨by omega, rfl⟩⟩)
    · refine lv_iconst (v := iZ 1) hx hb dX10_isPart_9 rfl ?_
      refine lv_goto (tgt := 14) hx hb dX10_isPart_10 (by decide) ?_
      exact zr_zret hQ hx hb hr hlk dX10_isPart_14 hK hP hD hS (by omega) (by omega) (by omega) (⟨rfl, Or.inr ⟨by omega, rfl⟩⟩)

set_option maxHeartbeats 4000000 in
set_option maxRecDepth 100000 in
/-- LimbSolver.forget -/
theorem p_forget (l : Launch) (D : va_G) (cI cJ cE cF cR : ClassId) (NP : Nat) (ad : Nat → Nat) (G : Nat → va_E) (wd el : Int) (hso : G 1 = .inr (10, [.ref (ad 2), .ref (ad 5), .ref (ad 473), .ref (ad 475), .int (iZ (wd)), .int (iZ (el))])) (hNP : 480 ≤ NP) : Cv l D (zty cI cJ cE cF cR) yX10_forget wsX10_forget (zRm 0 0) 0 0 [.ref (ad 1)] (pw NP ad G) (fun w1 => ∃ G1 : Nat → va_E, w1 = pw NP ad G1 ∧ G1 1 = .inr (10, [.ref (ad 2), .ref (ad 5), .ref (ad 473), .ref (ad 475), .int (iZ (0)), .int (iZ (0))]) ∧ ∀ i9 : Nat, i9 ≠ 1 → G1 i9 = G i9) := by
  unfold Cv
  refine zs (Qc := zQv D _ _) (cc := cX10_forget) (maxL := 1) (ret := none) (by decide) rfl (Nat.le_of_ble_eq_true rfl) ?_
  intro zp ze s zm below meth zc ls A args Q hQ hx hb hr hts hown hlk hml hnm hN hA hK hP hD hS hl
  have q_f_RX10_39_worked_Z := hts (.fieldLink RX10 39 "LimbSolver" "worked" "Z") (by decide +kernel)
  have hin10 : ∀ w ∈ wsX100, w ∈ wsX10_forget := by decide +kernel
  have q_f_RX10_43_eliminated_Z := hts (.fieldLink RX10 43 "LimbSolver" "eliminated" "Z") (by decide +kernel)
  have hl : lv_has ls 1 [(0, .ref (ad 1))] := hl
  refine lv_aload_n hx hb dX10_forget_0 rfl (lv_at hl 0 rfl) ?_
  refine lv_iconst (v := iZ 0) hx hb dX10_forget_1 rfl ?_
  refine va_put (D := D) (ci := 10) (v := .int (iZ (0))) (ty := tyX10 4) (C := RX10) (T := TX10) (N := 6) hx hb hts hin10 tyX10 tyX10_ok nmX10 hown hK hP hD hS (1) (pw_at (by omega) (hso)) rfl 4 (by decide) q_f_RX10_39_worked_Z (fun _ h9 => h9) rfl (tyX10_ok 4 (by decide)) rfl rfl (Nat.le_of_ble_eq_true rfl) dX10_forget_2 (fun H locs hP hD hS => ?_)
  rw [pw_set] at hP hD
  obtain ⟨G_2, hg2⟩ : ∃ g : Nat → va_E, g = zu G (1) (.inr (10, [.ref (ad 2), .ref (ad 5), .ref (ad 473), .ref (ad 475), .int (iZ (0)), .int (iZ (el))])) := ⟨_, rfl⟩
  have hP : va_P D vwCl (pw NP ad G_2) H := by rw [hg2]; exact hP
  have hD : va_D A (pw NP ad G_2) := by rw [hg2]; exact hD
  have ho2 : ∀ k : Nat, k ≠ 1 → G_2 k = G k := fun k hk => by rw [hg2]; exact zu_n _ _ hk
  have he2 : G_2 (1) = .inr (10, [.ref (ad 2), .ref (ad 5), .ref (ad 473), .ref (ad 475), .int (iZ (0)), .int (iZ (el))]) := by rw [hg2]; exact zu_s _ _ _
  refine lv_aload_n hx hb dX10_forget_5 rfl (lv_at hl 0 rfl) ?_
  refine lv_iconst (v := iZ 0) hx hb dX10_forget_6 rfl ?_
  refine va_put (D := D) (ci := 10) (v := .int (iZ (0))) (ty := tyX10 5) (C := RX10) (T := TX10) (N := 6) hx hb hts hin10 tyX10 tyX10_ok nmX10 hown hK hP hD hS (1) (pw_at (by omega) (he2)) rfl 5 (by decide) q_f_RX10_43_eliminated_Z (fun _ h9 => h9) rfl (tyX10_ok 5 (by decide)) rfl rfl (Nat.le_of_ble_eq_true rfl) dX10_forget_7 (fun H locs hP hD hS => ?_)
  rw [pw_set] at hP hD
  obtain ⟨G_7, hg7⟩ : ∃ g : Nat → va_E, g = zu G_2 (1) (.inr (10, [.ref (ad 2), .ref (ad 5), .ref (ad 473), .ref (ad 475), .int (iZ (0)), .int (iZ (0))])) := ⟨_, rfl⟩
  have hP : va_P D vwCl (pw NP ad G_7) H := by rw [hg7]; exact hP
  have hD : va_D A (pw NP ad G_7) := by rw [hg7]; exact hD
  have ho7 : ∀ k : Nat, k ≠ 1 → G_7 k = G_2 k := fun k hk => by rw [hg7]; exact zu_n _ _ hk
  have he7 : G_7 (1) = .inr (10, [.ref (ad 2), .ref (ad 5), .ref (ad 473), .ref (ad 475), .int (iZ (0)), .int (iZ (0))]) := by rw [hg7]; exact zu_s _ _ _
  exact zr_vret hQ hx hb hr hlk dX10_forget_10 hK hP hD hS (by omega) (by omega) (⟨G_7, rfl, he7, fun i9 h => (ho7 i9 h).trans (ho2 i9 h)⟩)

set_option maxHeartbeats 4000000 in
set_option maxRecDepth 100000 in
/-- LimbSolver.meter -/
theorem p_meter (l : Launch) (D : va_G) (cI cJ cE cF cR : ClassId) (NP : Nat) (ad : Nat → Nat) (G : Nat → va_E) (V : Nat → Rat) (n : Nat) (wd el : Int) (hC9 : pCs cI cJ cE cF cR NP ad G V n wd el) (hNP : 480 ≤ NP) : Ci l D (zty cI cJ cE cF cR) yX10_meter wsX10_meter (zRm 4 100) 0 0 [.ref (ad 1)] (pw NP ad G) (fun z9 w1 => ∃ G1 : Nat → va_E, w1 = pw NP ad G1 ∧ z9 = ((mta V n n : Nat) : Int) ∧ ∀ i9 : Nat, G1 i9 = G i9) := by
  unfold Ci
  refine zs (Qc := zQi D _ _) (cc := cX10_meter) (maxL := 1) (ret := (some .int)) (by decide) rfl (Nat.le_of_ble_eq_true rfl) ?_
  intro zp ze s zm below meth zc ls A args Q hQ hx hb hr hts hown hlk hml hnm hN hA hK hP hD hS hl
  have q_f_RX10_12_equations_LEquations := hts (.fieldLink RX10 12 "LimbSolver" "equations" "LLimbSolver$Equations;") (by decide +kernel)
  have hin10 : ∀ w ∈ wsX100, w ∈ wsX10_meter := by decide +kernel
  have hl : lv_has ls 1 [(0, .ref (ad 1))] := hl
  obtain ⟨hso, ⟨h1n, hn, hT⟩, hQ9, ⟨hsh, hre, hsq⟩, ρ, PR, ⟨hst, hwk, hHb, hpr, L8, n8, tn8, pv8, ml8, sv8, hel8⟩, hrun⟩ := id hC9
  refine lv_aload_n hx hb dX10_meter_0 rfl (lv_at hl 0 rfl) ?_
  refine va_get (D := D) (ci := 10) (v := .ref (ad 2)) (C := RX10) (T := TX10) (N := 6) hx hb hts hin10 hown hK hP (1) (pw_at (by omega) (hso)) rfl 0 (by decide) q_f_RX10_12_equations_LEquations (fun _ h9 => h9) rfl dX10_meter_1 ?_
  refine zc_Vi (As := []) (rest := []) (wr := []) ⟨hx, hb, hml, hown, hts⟩ (p_eqLimb l D cI cJ cE cF cR NP ad G n V hQ9 hn (by omega)) (cwV 0 hts gX10_meter_X4_limbCount rfl rfl rfl (by decide +kernel) ⟨Nat.le_of_ble_eq_true rfl, Nat.le_of_ble_eq_true rfl⟩) hN hK hP hD hS hA (List.range NP) [] (pw_all _ _ _) rfl (pw_nd _) rfl (fun _ h9 => nomatch h9) (q0 := 2) (ci := 4) rfl rfl (pw_at (by omega) (hQ9.1)) rfl hl.1 (Nat.le_of_ble_eq_true rfl) dX10_meter_4 ⟨by decide, by decide⟩ (fun zm w1 H locs hz4 hp hP hD hS => ?_)
  obtain ⟨G9, rfl, hr0, ho9⟩ := hp
  obtain rfl : G = G9 := (funext ho9).symm
  have hP : va_P D vwCl (pw NP ad G) H := hP
  have hD : va_D A (pw NP ad G) := hD
  exact zr_iret hQ hx hb hr hlk dX10_meter_7 hK hP hD hS (by omega) (by omega) hz4 (⟨G, rfl, hr0, fun _ => rfl⟩)

set_option maxHeartbeats 4000000 in
set_option maxRecDepth 100000 in
/-- LimbSolver.modulo -/
theorem p_modulo (l : Launch) (D : va_G) (cI cJ cE cF cR : ClassId) (NP : Nat) (ad : Nat → Nat) (G : Nat → va_E) (q9 : Int) (V : Nat → Rat) (n : Nat) (wd el : Int) (hC9 : pCs cI cJ cE cF cR NP ad G V n wd el) (hNP : 480 ≤ NP) (hq0 : iR q9) : Ci l D (zty cI cJ cE cF cR) yX10_modulo wsX10_modulo (zRm 5 140) 0 0 [.ref (ad 1), .int (iZ (q9))] (pw NP ad G) (fun z9 w1 => ∃ G1 : Nat → va_E, w1 = pw NP ad G1 ∧ pm_rel V n q9 z9 ∧ (∃ Z : Nat → Int, G1 474 = aI cI 36 Z) ∧ ∀ i9 : Nat, i9 ≠ 474 → G1 i9 = G i9) := by
  unfold Ci
  refine zs (Qc := zQi D _ _) (cc := cX10_modulo) (maxL := 2) (ret := (some .int)) (by decide) rfl (Nat.le_of_ble_eq_true rfl) ?_
  intro zp ze s zm below meth zc ls A args Q hQ hx hb hr hts hown hlk hml hnm hN hA hK hP hD hS hl
  have q_f_RX10_26_residues_LResidues := hts (.fieldLink RX10 26 "LimbSolver" "residues" "LLimbSolver$Residues;") (by decide +kernel)
  have hin10 : ∀ w ∈ wsX100, w ∈ wsX10_modulo := by decide +kernel
  have q_f_RX10_12_equations_LEquations := hts (.fieldLink RX10 12 "LimbSolver" "equations" "LLimbSolver$Equations;") (by decide +kernel)
  have hl : lv_has ls 2 [(0, .ref (ad 1)), (1, .int (iZ (q9)))] := hl
  obtain ⟨hso, ⟨h1n, hn, hT⟩, hQ9, ⟨hsh, hre, hsq⟩, ρ, PR, ⟨hst, hwk, hHb, hpr, L8, n8, tn8, pv8, ml8, sv8, hel8⟩, hrun⟩ := id hC9
  refine lv_aload_n hx hb dX10_modulo_0 rfl (lv_at hl 0 rfl) ?_
  refine va_get (D := D) (ci := 10) (v := .ref (ad 473)) (C := RX10) (T := TX10) (N := 6) hx hb hts hin10 hown hK hP (1) (pw_at (by omega) (hso)) rfl 2 (by decide) q_f_RX10_26_residues_LResidues (fun _ h9 => h9) rfl dX10_modulo_1 ?_
  refine lv_aload_n hx hb dX10_modulo_4 rfl (lv_at hl 0 rfl) ?_
  refine va_get (D := D) (ci := 10) (v := .ref (ad 2)) (C := RX10) (T := TX10) (N := 6) hx hb hts hin10 hown hK hP (1) (pw_at (by omega) (hso)) rfl 0 (by decide) q_f_RX10_12_equations_LEquations (fun _ h9 => h9) rfl dX10_modulo_5 ?_
  refine lv_iload_n hx hb dX10_modulo_8 rfl (lv_at hl 1 rfl) ?_
  refine zc_Vi (As := [.ref (ad 2), .int (iZ (q9))]) (rest := []) (wr := []) ⟨hx, hb, hml, hown, hts⟩ (p_residue l D cI cJ cE cF cR NP ad G n q9 V hQ9 hq0 hre hsq hn (by omega)) (cwV 2 hts gX10_modulo_X7_residue rfl rfl rfl (by decide +kernel) ⟨Nat.le_of_ble_eq_true rfl, Nat.le_of_ble_eq_true rfl⟩) hN hK hP hD hS hA (List.range NP) [] (pw_all _ _ _) rfl (pw_nd _) rfl (fun _ h9 => nomatch h9) (q0 := 473) (ci := 7) rfl rfl (pw_at (by omega) (hre)) rfl hl.1 (Nat.le_of_ble_eq_true rfl) dX10_modulo_9 ⟨by decide, by decide⟩ (fun zm w1 H locs hz9 hp hP hD hS => ?_)
  obtain ⟨G1, rfl, hr0, hZ1, ho1⟩ := hp
  have hP : va_P D vwCl (pw NP ad G1) H := hP
  have hD : va_D A (pw NP ad G1) := hD
  exact zr_iret hQ hx hb hr hlk dX10_modulo_12 hK hP hD hS (by omega) (by omega) hz9 (⟨G1, rfl, hr0, hZ1, ho1⟩)

set_option maxHeartbeats 4000000 in
set_option maxRecDepth 100000 in
/-- LimbSolver.rank -/
theorem p_rank (l : Launch) (D : va_G) (cI cJ cE cF cR : ClassId) (NP : Nat) (ad : Nat → Nat) (G : Nat → va_E) (V : Nat → Rat) (n : Nat) (wd el : Int) (hC9 : pCs cI cJ cE cF cR NP ad G V n wd el) (hNP : 480 ≤ NP) : Ci l D (zty cI cJ cE cF cR) yX10_rank wsX10_rank (zRm 0 0) 0 0 [.ref (ad 1)] (pw NP ad G) (fun z9 w1 => ∃ G1 : Nat → va_E, w1 = pw NP ad G1 ∧ ((el = 0 ∧ z9 = -1) ∨ (el = 1 ∧ z9 = ((peR (pe V n n) : Nat) : Int))) ∧ ∀ i9 : Nat, G1 i9 = G i9) := by
  unfold Ci
  refine zs (Qc := zQi D _ _) (cc := cX10_rank) (maxL := 1) (ret := (some .int)) (by decide) rfl (Nat.le_of_ble_eq_true rfl) ?_
  intro zp ze s zm below meth zc ls A args Q hQ hx hb hr hts hown hlk hml hnm hN hA hK hP hD hS hl
  have q_f_RX10_43_eliminated_Z := hts (.fieldLink RX10 43 "LimbSolver" "eliminated" "Z") (by decide +kernel)
  have hin10 : ∀ w ∈ wsX100, w ∈ wsX10_rank := by decide +kernel
  have q_f_RX10_19_work_LElimination := hts (.fieldLink RX10 19 "LimbSolver" "work" "LLimbSolver$Elimination;") (by decide +kernel)
  have hin2 : ∀ w ∈ wsX20, w ∈ wsX10_rank := by decide +kernel
  have hl : lv_has ls 1 [(0, .ref (ad 1))] := hl
  obtain ⟨hso, ⟨h1n, hn, hT⟩, hQ9, ⟨hsh, hre, hsq⟩, ρ, PR, ⟨hst, hwk, hHb, hpr, L8, n8, tn8, pv8, ml8, sv8, hel8⟩, hrun⟩ := id hC9
  have hel01 : el = 0 ∨ el = 1 := by rcases hrun with ⟨_, q⟩ | ⟨_, q, _⟩; exact Or.inl q; exact q
  by_cases hel1 : el = 1
  · have hrn : pRn cI NP ad G ρ PR n V := by rcases hrun with ⟨_, q⟩ | ⟨_, _, q⟩; omega; exact q
    obtain ⟨L9, rl, hel9, _⟩ := hrn
    have hVn := pe_ok hT h1n hn n (Nat.le_refl n)
    have hrN := hVn.1.2.1
    refine lv_aload_n hx hb dX10_rank_0 rfl (lv_at hl 0 rfl) ?_
    refine va_get (D := D) (ci := 10) (v := .int (iZ (el))) (C := RX10) (T := TX10) (N := 6) hx hb hts hin10 hown hK hP (1) (pw_at (by omega) (hso)) rfl 5 (by decide) q_f_RX10_43_eliminated_Z (fun _ h9 => h9) rfl dX10_rank_1 ?_
    refine zr_if_eq hx hb 17 ⟨by omega, by omega⟩ dX10_rank_4 (by decide) (fun h_4 => ?_) (fun h_4 => ?_)
    · exfalso; omega
    · refine lv_aload_n hx hb dX10_rank_7 rfl (lv_at hl 0 rfl) ?_
      refine va_get (D := D) (ci := 10) (v := .ref (ad 5)) (C := RX10) (T := TX10) (N := 6) hx hb hts hin10 hown hK hP (1) (pw_at (by omega) (hso)) rfl 1 (by decide) q_f_RX10_19_work_LElimination (fun _ h9 => h9) rfl dX10_rank_8 ?_
      refine va_getN (D := D) (ci := 2) (v := .int (iZ (((peR (pe V n n) : Nat) : Int)))) (C := RX2) (T := TX2) (N := 17) hx hb hts hin2 hown hK hP (5) (pw_at (by omega) (hel9)) rfl 14 (by decide) (hN.F 25 rfl) (fun _ h9 => h9) rfl dX10_rank_11 ?_
      refine lv_goto (tgt := 18) hx hb dX10_rank_14 (by decide) ?_
      exact zr_iret hQ hx hb hr hlk dX10_rank_18 hK hP hD hS (by omega) (by omega) ⟨by omega, by omega⟩ (⟨G, rfl, Or.inr ⟨hel1, rfl⟩, fun _ => rfl⟩)
  · refine lv_aload_n hx hb dX10_rank_0 rfl (lv_at hl 0 rfl) ?_
    refine va_get (D := D) (ci := 10) (v := .int (iZ (el))) (C := RX10) (T := TX10) (N := 6) hx hb hts hin10 hown hK hP (1) (pw_at (by omega) (hso)) rfl 5 (by decide) q_f_RX10_43_eliminated_Z (fun _ h9 => h9) rfl dX10_rank_1 ?_
    refine zr_if_eq hx hb 17 ⟨by omega, by omega⟩ dX10_rank_4 (by decide) (fun h_4 => ?_) (fun h_4 => ?_)
    · refine lv_iconst (v := iZ (-1)) hx hb dX10_rank_17 rfl ?_
      exact zr_iret hQ hx hb hr hlk dX10_rank_18 hK hP hD hS (by omega) (by omega) (by decide) (⟨G, rfl, Or.inl ⟨by omega, rfl⟩, fun _ => rfl⟩)
    · exfalso; omega
