set_option maxHeartbeats 4000000 in
set_option maxRecDepth 100000 in
/-- LimbSolver -/
theorem k_so (l : Launch) (D : va_G) (cI cJ cE cF cR : ClassId) (n k : Nat) (ad0 : Nat → Nat) (G0 : Nat → va_E) (hn : n = k + 1) (hG0 : G0 k = .inr (10, [.null, .null, .null, .null, .int (iZ (0)), .int (iZ (0))])) : Kv l D (zty cI cJ cE cF cR) yX10_init wsX10_init ({ frames := 5, cells := 478, slots := 12420, locals := 108 } : Room) (478) (12420) [.ref (ad0 (k))] (pw n ad0 G0) (kPo k 479 ad0 G0 (fun ad G => kSo cI cJ cE cF cR ad G k)) := by
  unfold Kv
  refine zsK (Qc := zQv D _ _) (cc := cX10_init) (maxL := 1) (ret := none) (by decide) rfl (Nat.le_of_ble_eq_true rfl) ?_
  intro zp ze s zm below meth zc ls A args Q hQ hx hb hr hts hown hlk hml hnm hN hAO hA hK hP hD hS hl
  have q_methodLink_RX10_3_objectInit := hts (.methodLink RX10 3 objectInit) (by decide +kernel)
  have q_instanceMethod_objectInit := hts (.instanceMethod objectInit) (by decide +kernel)
  have q_code_objectInit_0xb1_1_none := hts (.code objectInit ⟨#[0xb1]⟩ 1 none) (by decide +kernel)
  have hin4 : ∀ w ∈ wsX40, w ∈ wsX10_init := by decide +kernel
  have q_classLink_RX10_9_RX4 := hts (.classLink RX10 9 RX4) (by decide +kernel)
  have q_instantiable_RX4_3 := hts (.instantiable RX4 3) (by decide +kernel)
  have q_initialized_RX4 := hts (.initialized RX4) (by decide +kernel)
  have q_methodLink_RX10_11_yX4_init := hts (.methodLink RX10 11 yX4_init) (by decide +kernel)
  have q_instanceMethod_yX4_init := hts (.instanceMethod yX4_init) (by decide +kernel)
  have q_f_RX10_12_equations_LEquations := hts (.fieldLink RX10 12 "LimbSolver" "equations" "LLimbSolver$Equations;") (by decide +kernel)
  have hin10 : ∀ w ∈ wsX100, w ∈ wsX10_init := by decide +kernel
  have hin2 : ∀ w ∈ wsX20, w ∈ wsX10_init := by decide +kernel
  have q_classLink_RX10_16_RX2 := hts (.classLink RX10 16 RX2) (by decide +kernel)
  have q_instantiable_RX2_17 := hts (.instantiable RX2 17) (by decide +kernel)
  have q_initialized_RX2 := hts (.initialized RX2) (by decide +kernel)
  have q_methodLink_RX10_18_yX2_init := hts (.methodLink RX10 18 yX2_init) (by decide +kernel)
  have q_instanceMethod_yX2_init := hts (.instanceMethod yX2_init) (by decide +kernel)
  have q_f_RX10_19_work_LElimination := hts (.fieldLink RX10 19 "LimbSolver" "work" "LLimbSolver$Elimination;") (by decide +kernel)
  have hin7 : ∀ w ∈ wsX70, w ∈ wsX10_init := by decide +kernel
  have q_classLink_RX10_23_RX7 := hts (.classLink RX10 23 RX7) (by decide +kernel)
  have q_instantiable_RX7_1 := hts (.instantiable RX7 1) (by decide +kernel)
  have q_initialized_RX7 := hts (.initialized RX7) (by decide +kernel)
  have q_methodLink_RX10_25_yX7_init := hts (.methodLink RX10 25 yX7_init) (by decide +kernel)
  have q_instanceMethod_yX7_init := hts (.instanceMethod yX7_init) (by decide +kernel)
  have q_f_RX10_26_residues_LResidues := hts (.fieldLink RX10 26 "LimbSolver" "residues" "LLimbSolver$Residues;") (by decide +kernel)
  have hin6 : ∀ w ∈ wsX60, w ∈ wsX10_init := by decide +kernel
  have q_classLink_RX10_30_RX6 := hts (.classLink RX10 30 RX6) (by decide +kernel)
  have q_instantiable_RX6_3 := hts (.instantiable RX6 3) (by decide +kernel)
  have q_initialized_RX6 := hts (.initialized RX6) (by decide +kernel)
  have q_methodLink_RX10_32_yX6_init := hts (.methodLink RX10 32 yX6_init) (by decide +kernel)
  have q_instanceMethod_yX6_init := hts (.instanceMethod yX6_init) (by decide +kernel)
  have q_f_RX10_35_shown_LFraction := hts (.fieldLink RX10 35 "LimbSolver" "shown" "LLimbSolver$Fraction;") (by decide +kernel)
  have q_f_RX10_39_worked_Z := hts (.fieldLink RX10 39 "LimbSolver" "worked" "Z") (by decide +kernel)
  have q_f_RX10_43_eliminated_Z := hts (.fieldLink RX10 43 "LimbSolver" "eliminated" "Z") (by decide +kernel)
  have hl : lv_has ls 1 [(0, .ref (ad0 (k)))] := hl
  obtain ⟨ad, G, had0, hGG0⟩ : ∃ (ad : Nat → Nat) (G : Nat → va_E), ad = ad0 ∧ G = G0 := ⟨ad0, G0, rfl, rfl⟩
  have hP : va_P D vwCl (pw (k + 1) ad G) s.heap := by rw [had0, hGG0, ← hn]; exact hP
  have hD : va_D A (pw (k + 1) ad G) := by rw [had0, hGG0, ← hn]; exact hD
  have hl : lv_has ls 1 [(0, .ref (ad (k)))] := by rw [had0]; exact hl
  have hlo : ∀ i : Nat, i < k → ad i = ad0 i ∧ G i = G0 i := fun i hi => by rw [had0, hGG0]; exact ⟨rfl, rfl⟩
  have hak : ad k = ad0 k := by rw [had0]
  have hk0 : G (k) = .inr (10, [.null, .null, .null, .null, .int (iZ (0)), .int (iZ (0))]) := by rw [hGG0]; exact hG0
  refine lv_aload_n hx hb dX10_init_0 rfl (lv_at hl 0 rfl) ?_
  refine zk_obj hx hb hown q_methodLink_RX10_3_objectInit q_instanceMethod_objectInit q_code_objectInit_0xb1_1_none (hl.1.trans hml.symm) dX10_init_1 (Nat.le_of_ble_eq_true rfl) (Nat.le_of_ble_eq_true rfl) ?_
  refine lv_aload_n hx hb dX10_init_4 rfl (lv_at hl 0 rfl) ?_
  refine zk_new (D := D) (C := RX4) (T := TX4) (N := 3) (ci := 4) hx hb hts hin4 tyX4 tyX4_ok hown q_classLink_RX10_9_RX4 q_instantiable_RX4_3 q_initialized_RX4 hK hP hD hS hA rfl [.null, .null, .int (iZ (0))] (hfX4) (by show _ ≤ 478; omega) (by show _ ≤ 12420; omega) dX10_init_5 (fun ad G H ha5 hn5 hP hD hS => ?_)
  have hl : lv_has ls 1 [(0, .ref (ad (k)))] := by rw [(ha5 (k) (by omega)).1]; exact hl
  refine zk_st [.ref (ad (k + 1)), .ref (ad (k))] (by rw [(ha5 (k) (by omega)).1]) ?_
  have k5_0 : G (k) = .inr (10, [.null, .null, .null, .null, .int (iZ (0)), .int (iZ (0))]) := by rw [(ha5 (k) (by omega)).2, hk0]
  have hlo : ∀ i : Nat, i < k → ad i = ad0 i ∧ G i = G0 i := fun i hi => ⟨((ha5 (i) (by omega))).1.trans (hlo i hi).1, ((ha5 (i) (by omega))).2.trans (hlo i hi).2⟩
  have hak : ad k = ad0 k := ((ha5 (k) (by omega))).1.trans hak
  have hP : va_P D vwCl (pw (k + 2) ad G) H := by rw [show k + 2 = k + 1 + 1 by omega]; exact hP
  have hD : va_D A (pw (k + 2) ad G) := by rw [show k + 2 = k + 1 + 1 by omega]; exact hD
  refine lv_dup hx hb dX10_init_8 rfl ?_
  refine zc_Kv (As := []) (rest := [.ref (ad (k + 1)), .ref (ad (k))]) ⟨hx, hb, hml, hown, hts⟩ (k_eq l D cI cJ cE cF cR (_) (k + 1) ad G (by omega) (hn5)) (cwI 0 hts gX10_init_X4_init rfl rfl rfl q_initialized_RX4 q_methodLink_RX10_11_yX4_init q_instanceMethod_yX4_init rfl (by decide +kernel) ⟨Nat.le_of_ble_eq_true rfl, Nat.le_of_ble_eq_true rfl⟩) hN hAO hK hP hD hS hA rfl hl.1 (Nat.le_of_ble_eq_true rfl) dX10_init_9 ⟨by show _ ≤ 478; omega, by show _ ≤ 12420; omega⟩ (fun ad G H locs ha9 hao9 px9 hP hD hS => ?_)
  have hl : lv_has ls 1 [(0, .ref (ad (k)))] := by rw [(ha9 (k) (by omega)).1]; exact hl
  refine zk_st [.ref (ad (k + 1)), .ref (ad (k))] (by rw [(ha9 (k) (by omega)).1, hao9]) ?_
  have k9_0 : G (k) = .inr (10, [.null, .null, .null, .null, .int (iZ (0)), .int (iZ (0))]) := by rw [(ha9 (k) (by omega)).2, k5_0]
  have hlo : ∀ i : Nat, i < k → ad i = ad0 i ∧ G i = G0 i := fun i hi => ⟨((ha9 (i) (by omega))).1.trans (hlo i hi).1, ((ha9 (i) (by omega))).2.trans (hlo i hi).2⟩
  have hak : ad k = ad0 k := ((ha9 (k) (by omega))).1.trans hak
  have hP : va_P D vwCl (pw (k + 4) ad G) H := by rw [show k + 4 = k + 1 + 3 by omega]; exact hP
  have hD : va_D A (pw (k + 4) ad G) := by rw [show k + 4 = k + 1 + 3 by omega]; exact hD
  have px9 : kEq cJ ad G (k + 1) := px9
  refine va_putF (D := D) (ci := 10) (v := .ref (ad (k + 1))) (ty := tyX10 0) (C := RX10) (T := TX10) (N := 6) hx hb hts hin10 tyX10 tyX10_ok nmX10 hown hK hP hD hS (k) (pw_at (by omega) (k9_0)) rfl 0 (by decide) q_f_RX10_12_equations_LEquations (fun _ h9 => h9) rfl hnm rfl (tyX10_ok 0 (by decide)) rfl rfl (Nat.le_of_ble_eq_true rfl) dX10_init_12 (fun H locs hP hD hS => ?_)
  rw [pw_set] at hP hD
  obtain ⟨G_12, hg12⟩ : ∃ g : Nat → va_E, g = zu G (k) (.inr (10, [.ref (ad (k + 1)), .null, .null, .null, .int (iZ (0)), .int (iZ (0))])) := ⟨_, rfl⟩
  have hP : va_P D vwCl (pw (k + 4) ad G_12) H := by rw [hg12]; exact hP
  have hD : va_D A (pw (k + 4) ad G_12) := by rw [hg12]; exact hD
  have ho12 : ∀ i8 : Nat, i8 ≠ k → G_12 i8 = G i8 := fun i8 hk => by rw [hg12]; exact zu_n _ _ hk
  have he12 : G_12 (k) = .inr (10, [.ref (ad (k + 1)), .null, .null, .null, .int (iZ (0)), .int (iZ (0))]) := by rw [hg12]; exact zu_s _ _ _
  have hlo : ∀ i : Nat, i < k → ad i = ad0 i ∧ G_12 i = G0 i := fun i hi => ⟨((show ad (i) = ad (i) ∧ G_12 (i) = G (i) from ⟨rfl, ho12 (i) (by omega)⟩)).1.trans (hlo i hi).1, ((show ad (i) = ad (i) ∧ G_12 (i) = G (i) from ⟨rfl, ho12 (i) (by omega)⟩)).2.trans (hlo i hi).2⟩
  have px9 : kEq cJ ad G_12 (k + 1) := px9.mv (fun i h1 h2 => ⟨rfl, ho12 i (by omega)⟩)
  refine lv_aload_n hx hb dX10_init_15 rfl (lv_at hl 0 rfl) ?_
  refine zk_new (D := D) (C := RX2) (T := TX2) (N := 17) (ci := 2) hx hb hts hin2 tyX2 tyX2_ok hown q_classLink_RX10_16_RX2 q_instantiable_RX2_17 q_initialized_RX2 hK hP hD hS hA rfl [.null, .null, .null, .null, .null, .null, .null, .null, .null, .null, .null, .null, .int (iZ (0)), .int (iZ (0)), .int (iZ (0)), .int (iZ (0)), .int (iZ (0))] (hfX2) (by show _ ≤ 478; omega) (by show _ ≤ 12420; omega) dX10_init_16 (fun ad G H ha16 hn16 hP hD hS => ?_)
  have hl : lv_has ls 1 [(0, .ref (ad (k)))] := by rw [(ha16 (k) (by omega)).1]; exact hl
  refine zk_st [.ref (ad (k + 4)), .ref (ad (k))] (by rw [(ha16 (k) (by omega)).1]) ?_
  have k16_0 : G (k) = .inr (10, [.ref (ad (k + 1)), .null, .null, .null, .int (iZ (0)), .int (iZ (0))]) := by rw [(ha16 (k) (by omega)).2, he12, (ha16 (k + 1) (by omega)).1]
  have hlo : ∀ i : Nat, i < k → ad i = ad0 i ∧ G i = G0 i := fun i hi => ⟨((ha16 (i) (by omega))).1.trans (hlo i hi).1, ((ha16 (i) (by omega))).2.trans (hlo i hi).2⟩
  have hak : ad k = ad0 k := ((ha16 (k) (by omega))).1.trans hak
  have px9 : kEq cJ ad G (k + 1) := px9.mv (fun i h1 h2 => ha16 i (by omega))
  have hP : va_P D vwCl (pw (k + 5) ad G) H := by rw [show k + 5 = k + 4 + 1 by omega]; exact hP
  have hD : va_D A (pw (k + 5) ad G) := by rw [show k + 5 = k + 4 + 1 by omega]; exact hD
  refine lv_dup hx hb dX10_init_19 rfl ?_
  refine zc_Kv (As := []) (rest := [.ref (ad (k + 4)), .ref (ad (k))]) ⟨hx, hb, hml, hown, hts⟩ (k_el l D cI cJ cE cF cR (_) (k + 4) ad G (by omega) (hn16)) (cwI 0 hts gX10_init_X2_init rfl rfl rfl q_initialized_RX2 q_methodLink_RX10_18_yX2_init q_instanceMethod_yX2_init rfl (by decide +kernel) ⟨Nat.le_of_ble_eq_true rfl, Nat.le_of_ble_eq_true rfl⟩) hN hAO hK hP hD hS hA rfl hl.1 (Nat.le_of_ble_eq_true rfl) dX10_init_20 ⟨by show _ ≤ 478; omega, by show _ ≤ 12420; omega⟩ (fun ad G H locs ha20 hao20 px20 hP hD hS => ?_)
  have hl : lv_has ls 1 [(0, .ref (ad (k)))] := by rw [(ha20 (k) (by omega)).1]; exact hl
  refine zk_st [.ref (ad (k + 4)), .ref (ad (k))] (by rw [(ha20 (k) (by omega)).1, hao20]) ?_
  have k20_0 : G (k) = .inr (10, [.ref (ad (k + 1)), .null, .null, .null, .int (iZ (0)), .int (iZ (0))]) := by rw [(ha20 (k) (by omega)).2, k16_0, (ha20 (k + 1) (by omega)).1]
  have hlo : ∀ i : Nat, i < k → ad i = ad0 i ∧ G i = G0 i := fun i hi => ⟨((ha20 (i) (by omega))).1.trans (hlo i hi).1, ((ha20 (i) (by omega))).2.trans (hlo i hi).2⟩
  have hak : ad k = ad0 k := ((ha20 (k) (by omega))).1.trans hak
  have px9 : kEq cJ ad G (k + 1) := px9.mv (fun i h1 h2 => ha20 i (by omega))
  have hP : va_P D vwCl (pw (k + 472) ad G) H := by rw [show k + 472 = k + 4 + 468 by omega]; exact hP
  have hD : va_D A (pw (k + 472) ad G) := by rw [show k + 472 = k + 4 + 468 by omega]; exact hD
  have px20 : kEl cI cE cF cR ad G (k + 4) := px20
  refine va_putF (D := D) (ci := 10) (v := .ref (ad (k + 4))) (ty := tyX10 1) (C := RX10) (T := TX10) (N := 6) hx hb hts hin10 tyX10 tyX10_ok nmX10 hown hK hP hD hS (k) (pw_at (by omega) (k20_0)) rfl 1 (by decide) q_f_RX10_19_work_LElimination (fun _ h9 => h9) rfl hnm rfl (tyX10_ok 1 (by decide)) rfl rfl (Nat.le_of_ble_eq_true rfl) dX10_init_23 (fun H locs hP hD hS => ?_)
  rw [pw_set] at hP hD
  obtain ⟨G_23, hg23⟩ : ∃ g : Nat → va_E, g = zu G (k) (.inr (10, [.ref (ad (k + 1)), .ref (ad (k + 4)), .null, .null, .int (iZ (0)), .int (iZ (0))])) := ⟨_, rfl⟩
  have hP : va_P D vwCl (pw (k + 472) ad G_23) H := by rw [hg23]; exact hP
  have hD : va_D A (pw (k + 472) ad G_23) := by rw [hg23]; exact hD
  have ho23 : ∀ i8 : Nat, i8 ≠ k → G_23 i8 = G i8 := fun i8 hk => by rw [hg23]; exact zu_n _ _ hk
  have he23 : G_23 (k) = .inr (10, [.ref (ad (k + 1)), .ref (ad (k + 4)), .null, .null, .int (iZ (0)), .int (iZ (0))]) := by rw [hg23]; exact zu_s _ _ _
  have hlo : ∀ i : Nat, i < k → ad i = ad0 i ∧ G_23 i = G0 i := fun i hi => ⟨((show ad (i) = ad (i) ∧ G_23 (i) = G (i) from ⟨rfl, ho23 (i) (by omega)⟩)).1.trans (hlo i hi).1, ((show ad (i) = ad (i) ∧ G_23 (i) = G (i) from ⟨rfl, ho23 (i) (by omega)⟩)).2.trans (hlo i hi).2⟩
  have px9 : kEq cJ ad G_23 (k + 1) := px9.mv (fun i h1 h2 => ⟨rfl, ho23 i (by omega)⟩)
  have px20 : kEl cI cE cF cR ad G_23 (k + 4) := px20.mv (fun i h1 h2 => ⟨rfl, ho23 i (by omega)⟩)
  refine lv_aload_n hx hb dX10_init_26 rfl (lv_at hl 0 rfl) ?_
  refine zk_new (D := D) (C := RX7) (T := TX7) (N := 1) (ci := 7) hx hb hts hin7 tyX7 tyX7_ok hown q_classLink_RX10_23_RX7 q_instantiable_RX7_1 q_initialized_RX7 hK hP hD hS hA rfl [.null] (hfX7) (by show _ ≤ 478; omega) (by show _ ≤ 12420; omega) dX10_init_27 (fun ad G H ha27 hn27 hP hD hS => ?_)
  have hl : lv_has ls 1 [(0, .ref (ad (k)))] := by rw [(ha27 (k) (by omega)).1]; exact hl
  refine zk_st [.ref (ad (k + 472)), .ref (ad (k))] (by rw [(ha27 (k) (by omega)).1]) ?_
  have k27_0 : G (k) = .inr (10, [.ref (ad (k + 1)), .ref (ad (k + 4)), .null, .null, .int (iZ (0)), .int (iZ (0))]) := by rw [(ha27 (k) (by omega)).2, he23, (ha27 (k + 1) (by omega)).1, (ha27 (k + 4) (by omega)).1]
  have hlo : ∀ i : Nat, i < k → ad i = ad0 i ∧ G i = G0 i := fun i hi => ⟨((ha27 (i) (by omega))).1.trans (hlo i hi).1, ((ha27 (i) (by omega))).2.trans (hlo i hi).2⟩
  have hak : ad k = ad0 k := ((ha27 (k) (by omega))).1.trans hak
  have px9 : kEq cJ ad G (k + 1) := px9.mv (fun i h1 h2 => ha27 i (by omega))
  have px20 : kEl cI cE cF cR ad G (k + 4) := px20.mv (fun i h1 h2 => ha27 i (by omega))
  have hP : va_P D vwCl (pw (k + 473) ad G) H := by rw [show k + 473 = k + 472 + 1 by omega]; exact hP
  have hD : va_D A (pw (k + 473) ad G) := by rw [show k + 473 = k + 472 + 1 by omega]; exact hD
  refine lv_dup hx hb dX10_init_30 rfl ?_
  refine zc_Kv (As := []) (rest := [.ref (ad (k + 472)), .ref (ad (k))]) ⟨hx, hb, hml, hown, hts⟩ (k_res l D cI cJ cE cF cR (_) (k + 472) ad G (by omega) (hn27)) (cwI 0 hts gX10_init_X7_init rfl rfl rfl q_initialized_RX7 q_methodLink_RX10_25_yX7_init q_instanceMethod_yX7_init rfl (by decide +kernel) ⟨Nat.le_of_ble_eq_true rfl, Nat.le_of_ble_eq_true rfl⟩) hN hAO hK hP hD hS hA rfl hl.1 (Nat.le_of_ble_eq_true rfl) dX10_init_31 ⟨by show _ ≤ 478; omega, by show _ ≤ 12420; omega⟩ (fun ad G H locs ha31 hao31 px31 hP hD hS => ?_)
  have hl : lv_has ls 1 [(0, .ref (ad (k)))] := by rw [(ha31 (k) (by omega)).1]; exact hl
  refine zk_st [.ref (ad (k + 472)), .ref (ad (k))] (by rw [(ha31 (k) (by omega)).1, hao31]) ?_
  have k31_0 : G (k) = .inr (10, [.ref (ad (k + 1)), .ref (ad (k + 4)), .null, .null, .int (iZ (0)), .int (iZ (0))]) := by rw [(ha31 (k) (by omega)).2, k27_0, (ha31 (k + 1) (by omega)).1, (ha31 (k + 4) (by omega)).1]
  have hlo : ∀ i : Nat, i < k → ad i = ad0 i ∧ G i = G0 i := fun i hi => ⟨((ha31 (i) (by omega))).1.trans (hlo i hi).1, ((ha31 (i) (by omega))).2.trans (hlo i hi).2⟩
  have hak : ad k = ad0 k := ((ha31 (k) (by omega))).1.trans hak
  have px9 : kEq cJ ad G (k + 1) := px9.mv (fun i h1 h2 => ha31 i (by omega))
  have px20 : kEl cI cE cF cR ad G (k + 4) := px20.mv (fun i h1 h2 => ha31 i (by omega))
  have hP : va_P D vwCl (pw (k + 474) ad G) H := by rw [show k + 474 = k + 472 + 2 by omega]; exact hP
  have hD : va_D A (pw (k + 474) ad G) := by rw [show k + 474 = k + 472 + 2 by omega]; exact hD
  have px31 : kRs cI ad G (k + 472) := px31
  refine va_putF (D := D) (ci := 10) (v := .ref (ad (k + 472))) (ty := tyX10 2) (C := RX10) (T := TX10) (N := 6) hx hb hts hin10 tyX10 tyX10_ok nmX10 hown hK hP hD hS (k) (pw_at (by omega) (k31_0)) rfl 2 (by decide) q_f_RX10_26_residues_LResidues (fun _ h9 => h9) rfl hnm rfl (tyX10_ok 2 (by decide)) rfl rfl (Nat.le_of_ble_eq_true rfl) dX10_init_34 (fun H locs hP hD hS => ?_)
  rw [pw_set] at hP hD
  obtain ⟨G_34, hg34⟩ : ∃ g : Nat → va_E, g = zu G (k) (.inr (10, [.ref (ad (k + 1)), .ref (ad (k + 4)), .ref (ad (k + 472)), .null, .int (iZ (0)), .int (iZ (0))])) := ⟨_, rfl⟩
  have hP : va_P D vwCl (pw (k + 474) ad G_34) H := by rw [hg34]; exact hP
  have hD : va_D A (pw (k + 474) ad G_34) := by rw [hg34]; exact hD
  have ho34 : ∀ i8 : Nat, i8 ≠ k → G_34 i8 = G i8 := fun i8 hk => by rw [hg34]; exact zu_n _ _ hk
  have he34 : G_34 (k) = .inr (10, [.ref (ad (k + 1)), .ref (ad (k + 4)), .ref (ad (k + 472)), .null, .int (iZ (0)), .int (iZ (0))]) := by rw [hg34]; exact zu_s _ _ _
  have hlo : ∀ i : Nat, i < k → ad i = ad0 i ∧ G_34 i = G0 i := fun i hi => ⟨((show ad (i) = ad (i) ∧ G_34 (i) = G (i) from ⟨rfl, ho34 (i) (by omega)⟩)).1.trans (hlo i hi).1, ((show ad (i) = ad (i) ∧ G_34 (i) = G (i) from ⟨rfl, ho34 (i) (by omega)⟩)).2.trans (hlo i hi).2⟩
  have px9 : kEq cJ ad G_34 (k + 1) := px9.mv (fun i h1 h2 => ⟨rfl, ho34 i (by omega)⟩)
  have px20 : kEl cI cE cF cR ad G_34 (k + 4) := px20.mv (fun i h1 h2 => ⟨rfl, ho34 i (by omega)⟩)
  have px31 : kRs cI ad G_34 (k + 472) := px31.mv (fun i h1 h2 => ⟨rfl, ho34 i (by omega)⟩)
  refine lv_aload_n hx hb dX10_init_37 rfl (lv_at hl 0 rfl) ?_
  refine zk_new (D := D) (C := RX6) (T := TX6) (N := 3) (ci := 6) hx hb hts hin6 tyX6 tyX6_ok hown q_classLink_RX10_30_RX6 q_instantiable_RX6_3 q_initialized_RX6 hK hP hD hS hA rfl [.null, .null, .int (iZ (0))] (hfX6) (by show _ ≤ 478; omega) (by show _ ≤ 12420; omega) dX10_init_38 (fun ad G H ha38 hn38 hP hD hS => ?_)
  have hl : lv_has ls 1 [(0, .ref (ad (k)))] := by rw [(ha38 (k) (by omega)).1]; exact hl
  refine zk_st [.ref (ad (k + 474)), .ref (ad (k))] (by rw [(ha38 (k) (by omega)).1]) ?_
  have k38_0 : G (k) = .inr (10, [.ref (ad (k + 1)), .ref (ad (k + 4)), .ref (ad (k + 472)), .null, .int (iZ (0)), .int (iZ (0))]) := by rw [(ha38 (k) (by omega)).2, he34, (ha38 (k + 1) (by omega)).1, (ha38 (k + 4) (by omega)).1, (ha38 (k + 472) (by omega)).1]
  have hlo : ∀ i : Nat, i < k → ad i = ad0 i ∧ G i = G0 i := fun i hi => ⟨((ha38 (i) (by omega))).1.trans (hlo i hi).1, ((ha38 (i) (by omega))).2.trans (hlo i hi).2⟩
  have hak : ad k = ad0 k := ((ha38 (k) (by omega))).1.trans hak
  have px9 : kEq cJ ad G (k + 1) := px9.mv (fun i h1 h2 => ha38 i (by omega))
  have px20 : kEl cI cE cF cR ad G (k + 4) := px20.mv (fun i h1 h2 => ha38 i (by omega))
  have px31 : kRs cI ad G (k + 472) := px31.mv (fun i h1 h2 => ha38 i (by omega))
  have hP : va_P D vwCl (pw (k + 475) ad G) H := by rw [show k + 475 = k + 474 + 1 by omega]; exact hP
  have hD : va_D A (pw (k + 475) ad G) := by rw [show k + 475 = k + 474 + 1 by omega]; exact hD
  refine lv_dup hx hb dX10_init_41 rfl ?_
  refine lv_iconst (v := iZ 2) hx hb dX10_init_42 rfl ?_
  refine lv_iconst (v := iZ 2) hx hb dX10_init_43 rfl ?_
  refine zc_Kv (As := [.int (iZ (2)), .int (iZ (2))]) (rest := [.ref (ad (k + 474)), .ref (ad (k))]) ⟨hx, hb, hml, hown, hts⟩ (k_frac l D cI cJ cE cF cR (_) (k + 474) ad G (by omega) (2) (by omega) (by omega) (hn38)) (cwI 2 hts gX10_init_X6_init rfl rfl rfl q_initialized_RX6 q_methodLink_RX10_32_yX6_init q_instanceMethod_yX6_init rfl (by decide +kernel) ⟨Nat.le_of_ble_eq_true rfl, Nat.le_of_ble_eq_true rfl⟩) hN hAO hK hP hD hS hA rfl hl.1 (Nat.le_of_ble_eq_true rfl) dX10_init_44 ⟨by show _ ≤ 478; omega, by show _ ≤ 12420; omega⟩ (fun ad G H locs ha44 hao44 pf44 hP hD hS => ?_)
  have hl : lv_has ls 1 [(0, .ref (ad (k)))] := by rw [(ha44 (k) (by omega)).1]; exact hl
  refine zk_st [.ref (ad (k + 474)), .ref (ad (k))] (by rw [(ha44 (k) (by omega)).1, hao44]) ?_
  have k44_0 : G (k) = .inr (10, [.ref (ad (k + 1)), .ref (ad (k + 4)), .ref (ad (k + 472)), .null, .int (iZ (0)), .int (iZ (0))]) := by rw [(ha44 (k) (by omega)).2, k38_0, (ha44 (k + 1) (by omega)).1, (ha44 (k + 4) (by omega)).1, (ha44 (k + 472) (by omega)).1]
  have hlo : ∀ i : Nat, i < k → ad i = ad0 i ∧ G i = G0 i := fun i hi => ⟨((ha44 (i) (by omega))).1.trans (hlo i hi).1, ((ha44 (i) (by omega))).2.trans (hlo i hi).2⟩
  have hak : ad k = ad0 k := ((ha44 (k) (by omega))).1.trans hak
  have px9 : kEq cJ ad G (k + 1) := px9.mv (fun i h1 h2 => ha44 i (by omega))
  have px20 : kEl cI cE cF cR ad G (k + 4) := px20.mv (fun i h1 h2 => ha44 i (by omega))
  have px31 : kRs cI ad G (k + 472) := px31.mv (fun i h1 h2 => ha44 i (by omega))
  have hP : va_P D vwCl (pw (k + 479) ad G) H := by rw [show k + 479 = k + 474 + 5 by omega]; exact hP
  have hD : va_D A (pw (k + 479) ad G) := by rw [show k + 479 = k + 474 + 5 by omega]; exact hD
  have pf44 : pFh cI ad G (k + 474) (2) := pf44
  obtain ⟨⟨sg44, hsg44⟩, _⟩ := id pf44
  refine va_putF (D := D) (ci := 10) (v := .ref (ad (k + 474))) (ty := tyX10 3) (C := RX10) (T := TX10) (N := 6) hx hb hts hin10 tyX10 tyX10_ok nmX10 hown hK hP hD hS (k) (pw_at (by omega) (k44_0)) rfl 3 (by decide) q_f_RX10_35_shown_LFraction (fun _ h9 => h9) rfl hnm rfl (tyX10_ok 3 (by decide)) rfl rfl (Nat.le_of_ble_eq_true rfl) dX10_init_47 (fun H locs hP hD hS => ?_)
  rw [pw_set] at hP hD
  obtain ⟨G_47, hg47⟩ : ∃ g : Nat → va_E, g = zu G (k) (.inr (10, [.ref (ad (k + 1)), .ref (ad (k + 4)), .ref (ad (k + 472)), .ref (ad (k + 474)), .int (iZ (0)), .int (iZ (0))])) := ⟨_, rfl⟩
  have hP : va_P D vwCl (pw (k + 479) ad G_47) H := by rw [hg47]; exact hP
  have hD : va_D A (pw (k + 479) ad G_47) := by rw [hg47]; exact hD
  have ho47 : ∀ i8 : Nat, i8 ≠ k → G_47 i8 = G i8 := fun i8 hk => by rw [hg47]; exact zu_n _ _ hk
  have he47 : G_47 (k) = .inr (10, [.ref (ad (k + 1)), .ref (ad (k + 4)), .ref (ad (k + 472)), .ref (ad (k + 474)), .int (iZ (0)), .int (iZ (0))]) := by rw [hg47]; exact zu_s _ _ _
  have k47_1 : G_47 (k + 474) = .inr (6, [.ref (ad (k + 474 + 1)), .ref (ad (k + 474 + 3)), .int (iZ (sg44))]) := (ho47 (k + 474) (by omega)).trans (hsg44)
  have hlo : ∀ i : Nat, i < k → ad i = ad0 i ∧ G_47 i = G0 i := fun i hi => ⟨((show ad (i) = ad (i) ∧ G_47 (i) = G (i) from ⟨rfl, ho47 (i) (by omega)⟩)).1.trans (hlo i hi).1, ((show ad (i) = ad (i) ∧ G_47 (i) = G (i) from ⟨rfl, ho47 (i) (by omega)⟩)).2.trans (hlo i hi).2⟩
  have px9 : kEq cJ ad G_47 (k + 1) := px9.mv (fun i h1 h2 => ⟨rfl, ho47 i (by omega)⟩)
  have px20 : kEl cI cE cF cR ad G_47 (k + 4) := px20.mv (fun i h1 h2 => ⟨rfl, ho47 i (by omega)⟩)
  have px31 : kRs cI ad G_47 (k + 472) := px31.mv (fun i h1 h2 => ⟨rfl, ho47 i (by omega)⟩)
  have pf44 : pFh cI ad G_47 (k + 474) (2) := pf44.mv (fun i h1 h2 => ⟨rfl, ho47 i (by omega)⟩)
  refine lv_aload_n hx hb dX10_init_50 rfl (lv_at hl 0 rfl) ?_
  refine lv_iconst (v := iZ 0) hx hb dX10_init_51 rfl ?_
  refine va_put (D := D) (ci := 10) (v := .int (iZ (0))) (ty := tyX10 4) (C := RX10) (T := TX10) (N := 6) hx hb hts hin10 tyX10 tyX10_ok nmX10 hown hK hP hD hS (k) (pw_at (by omega) (he47)) rfl 4 (by decide) q_f_RX10_39_worked_Z (fun _ h9 => h9) rfl (tyX10_ok 4 (by decide)) rfl rfl (Nat.le_of_ble_eq_true rfl) dX10_init_52 (fun H locs hP hD hS => ?_)
  rw [pw_set] at hP hD
  obtain ⟨G_52, hg52⟩ : ∃ g : Nat → va_E, g = zu G_47 (k) (.inr (10, [.ref (ad (k + 1)), .ref (ad (k + 4)), .ref (ad (k + 472)), .ref (ad (k + 474)), .int (iZ (0)), .int (iZ (0))])) := ⟨_, rfl⟩
  have hP : va_P D vwCl (pw (k + 479) ad G_52) H := by rw [hg52]; exact hP
  have hD : va_D A (pw (k + 479) ad G_52) := by rw [hg52]; exact hD
  have ho52 : ∀ i8 : Nat, i8 ≠ k → G_52 i8 = G_47 i8 := fun i8 hk => by rw [hg52]; exact zu_n _ _ hk
  have he52 : G_52 (k) = .inr (10, [.ref (ad (k + 1)), .ref (ad (k + 4)), .ref (ad (k + 472)), .ref (ad (k + 474)), .int (iZ (0)), .int (iZ (0))]) := by rw [hg52]; exact zu_s _ _ _
  have k52_0 : G_52 (k + 474) = .inr (6, [.ref (ad (k + 474 + 1)), .ref (ad (k + 474 + 3)), .int (iZ (sg44))]) := (ho52 (k + 474) (by omega)).trans (k47_1)
  have hlo : ∀ i : Nat, i < k → ad i = ad0 i ∧ G_52 i = G0 i := fun i hi => ⟨((show ad (i) = ad (i) ∧ G_52 (i) = G_47 (i) from ⟨rfl, ho52 (i) (by omega)⟩)).1.trans (hlo i hi).1, ((show ad (i) = ad (i) ∧ G_52 (i) = G_47 (i) from ⟨rfl, ho52 (i) (by omega)⟩)).2.trans (hlo i hi).2⟩
  have px9 : kEq cJ ad G_52 (k + 1) := px9.mv (fun i h1 h2 => ⟨rfl, ho52 i (by omega)⟩)
  have px20 : kEl cI cE cF cR ad G_52 (k + 4) := px20.mv (fun i h1 h2 => ⟨rfl, ho52 i (by omega)⟩)
  have px31 : kRs cI ad G_52 (k + 472) := px31.mv (fun i h1 h2 => ⟨rfl, ho52 i (by omega)⟩)
  have pf44 : pFh cI ad G_52 (k + 474) (2) := pf44.mv (fun i h1 h2 => ⟨rfl, ho52 i (by omega)⟩)
  refine lv_aload_n hx hb dX10_init_55 rfl (lv_at hl 0 rfl) ?_
  refine lv_iconst (v := iZ 0) hx hb dX10_init_56 rfl ?_
  refine va_put (D := D) (ci := 10) (v := .int (iZ (0))) (ty := tyX10 5) (C := RX10) (T := TX10) (N := 6) hx hb hts hin10 tyX10 tyX10_ok nmX10 hown hK hP hD hS (k) (pw_at (by omega) (he52)) rfl 5 (by decide) q_f_RX10_43_eliminated_Z (fun _ h9 => h9) rfl (tyX10_ok 5 (by decide)) rfl rfl (Nat.le_of_ble_eq_true rfl) dX10_init_57 (fun H locs hP hD hS => ?_)
  rw [pw_set] at hP hD
  obtain ⟨G_57, hg57⟩ : ∃ g : Nat → va_E, g = zu G_52 (k) (.inr (10, [.ref (ad (k + 1)), .ref (ad (k + 4)), .ref (ad (k + 472)), .ref (ad (k + 474)), .int (iZ (0)), .int (iZ (0))])) := ⟨_, rfl⟩
  have hP : va_P D vwCl (pw (k + 479) ad G_57) H := by rw [hg57]; exact hP
  have hD : va_D A (pw (k + 479) ad G_57) := by rw [hg57]; exact hD
  have ho57 : ∀ i8 : Nat, i8 ≠ k → G_57 i8 = G_52 i8 := fun i8 hk => by rw [hg57]; exact zu_n _ _ hk
  have he57 : G_57 (k) = .inr (10, [.ref (ad (k + 1)), .ref (ad (k + 4)), .ref (ad (k + 472)), .ref (ad (k + 474)), .int (iZ (0)), .int (iZ (0))]) := by rw [hg57]; exact zu_s _ _ _
  have k57_0 : G_57 (k + 474) = .inr (6, [.ref (ad (k + 474 + 1)), .ref (ad (k + 474 + 3)), .int (iZ (sg44))]) := (ho57 (k + 474) (by omega)).trans (k52_0)
  have hlo : ∀ i : Nat, i < k → ad i = ad0 i ∧ G_57 i = G0 i := fun i hi => ⟨((show ad (i) = ad (i) ∧ G_57 (i) = G_52 (i) from ⟨rfl, ho57 (i) (by omega)⟩)).1.trans (hlo i hi).1, ((show ad (i) = ad (i) ∧ G_57 (i) = G_52 (i) from ⟨rfl, ho57 (i) (by omega)⟩)).2.trans (hlo i hi).2⟩
  have px9 : kEq cJ ad G_57 (k + 1) := px9.mv (fun i h1 h2 => ⟨rfl, ho57 i (by omega)⟩)
  have px20 : kEl cI cE cF cR ad G_57 (k + 4) := px20.mv (fun i h1 h2 => ⟨rfl, ho57 i (by omega)⟩)
  have px31 : kRs cI ad G_57 (k + 472) := px31.mv (fun i h1 h2 => ⟨rfl, ho57 i (by omega)⟩)
  have pf44 : pFh cI ad G_57 (k + 474) (2) := pf44.mv (fun i h1 h2 => ⟨rfl, ho57 i (by omega)⟩)
  exact zr_vret hQ hx hb hr hlk dX10_init_60 hK hP hD hS (by omega) (by omega) (⟨ad, G_57, rfl, hlo, hak, ⟨he57, px9, px20, px31, pf44⟩⟩)
