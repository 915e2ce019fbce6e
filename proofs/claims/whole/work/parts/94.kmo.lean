/-- the reference k as it is made -/
def kMo (cI cJ : ClassId) (ad : Nat → Nat) (G : Nat → va_E) (k : Nat) : Prop := ∃ (F Ln Sg T0 B0 PR RS : Nat → Int), G k = mo_ (ad (k + 1)) (ad (k + 2)) (ad (k + 3)) (ad (k + 4)) (ad (k + 5)) (ad (k + 6)) (ad (k + 7)) 1 0 0 0 0 0 0 ∧ G (k + 1) = aI cI 52200 F ∧ G (k + 2) = aI cI 190 Ln ∧ G (k + 3) = aI cI 90 Sg ∧ G (k + 4) = aI cI 1300 T0 ∧ G (k + 5) = aI cI 1300 B0 ∧ G (k + 6) = aI cI 6 PR ∧ G (k + 7) = aJ cJ 36 RS ∧ md_A F Ln Sg 0 (fun _ => 0)
set_option maxHeartbeats 4000000 in
theorem k_mclear (l : Launch) (D : va_G) (cI cJ cE cF cR : ClassId) (NP : Nat) (ad : Nat → Nat) (G : Nat → va_E) (k : Nat) (F Ln Sg : Nat → Int) (q1 : G k = mo_ (ad (k + 1)) (ad (k + 2)) (ad (k + 3)) (ad (k + 4)) (ad (k + 5)) (ad (k + 6)) (ad (k + 7)) 1 0 0 0 0 0 0) (q2 : G (k + 1) = aI cI 52200 F) (q3 : G (k + 2) = aI cI 190 Ln) (q4 : G (k + 3) = aI cI 90 Sg) (hNP : k + 7 < NP) : Cv l D (zty cI cJ cE cF cR) yX11_clear wsX11_clear (zRm 3 75) 0 0 [.ref (ad k)] (pw NP ad G) (fun w1 => ∃ G1 : Nat → va_E, w1 = pw NP ad G1 ∧ (G1 k = mo_ (ad (k + 1)) (ad (k + 2)) (ad (k + 3)) (ad (k + 4)) (ad (k + 5)) (ad (k + 6)) (ad (k + 7)) 1 0 0 0 0 0 0 ∧ ∃ F Ln Sg : Nat → Int, G1 (k + 1) = aI cI 52200 F ∧ G1 (k + 2) = aI cI 190 Ln ∧ G1 (k + 3) = aI cI 90 Sg ∧ md_A F Ln Sg 0 (fun _ => 0)) ∧ ∀ i9 : Nat, i9 ≠ k → i9 ≠ k + 1 → i9 ≠ k + 2 → i9 ≠ k + 3 → G1 i9 = G i9) := by
  refine (Cv.frame (c_mclear l D cI cJ cE cF cR (ad k) (ad (k + 1)) (ad (k + 2)) (ad (k + 3)) (ad (k + 4)) (ad (k + 5)) (ad (k + 6)) (ad (k + 7)) 1 0 0 0 0 0 0 F Ln Sg) [k, k + 1, k + 2, k + 3] (by simp <;> omega) (by simp [va_nd] <;> omega) (by simp only [List.map_cons, List.map_nil, q1, q2, q3, q4]; rfl) (by rintro u ⟨x, y, z, rfl, hxy⟩; rfl)).weak ?_
  rintro u ⟨G1, rfl, ⟨x, y, z, hw, _, hxy⟩, ho⟩
  exact ⟨G1, rfl, ⟨congrArg Prod.snd (Option.some.inj (congrArg (fun l9 => l9[0]?) hw)), x, y, z, congrArg Prod.snd (Option.some.inj (congrArg (fun l9 => l9[1]?) hw)), congrArg Prod.snd (Option.some.inj (congrArg (fun l9 => l9[2]?) hw)), congrArg Prod.snd (Option.some.inj (congrArg (fun l9 => l9[3]?) hw)), hxy⟩, fun i9 hc0 hc1 hc2 hc3 => by
    exact ho i9 (by simp <;> omega)⟩

set_option maxHeartbeats 4000000 in
set_option maxRecDepth 100000 in
/-- LimbSolverModel -/
theorem k_mo (l : Launch) (D : va_G) (cI cJ cE cF cR : ClassId) (n k : Nat) (ad0 : Nat → Nat) (G0 : Nat → va_E) (hn : n = k + 1) (hG0 : G0 k = .inr (11, [.null, .null, .null, .null, .null, .int (iZ (0)), .int (iZ (0)), .int (iZ (0)), .int (iZ (0)), .int (iZ (0)), .int (iZ (0)), .null, .int (iZ (0)), .null])) : Kv l D (zty cI cJ cE cF cR) yX11_init wsX11_init ({ frames := 4, cells := 7, slots := 55122, locals := 96 } : Room) (7) (55122) [.ref (ad0 (k))] (pw n ad0 G0) (kPo k 8 ad0 G0 (fun ad G => kMo cI cJ ad G k)) := by
  unfold Kv
  refine zsK (Qc := zQv D _ _) (cc := cX11_init) (maxL := 1) (ret := none) (by decide) rfl (Nat.le_of_ble_eq_true rfl) ?_
  intro zp ze s zm below meth zc ls A args Q hQ hx hb hr hts hown hlk hml hnm hN hAO hA hK hP hD hS hl
  have q_methodLink_RX11_1_objectInit := hts (.methodLink RX11 1 objectInit) (by decide +kernel)
  have q_instanceMethod_objectInit := hts (.instanceMethod objectInit) (by decide +kernel)
  have q_code_objectInit_0xb1_1_none := hts (.code objectInit ⟨#[0xb1]⟩ 1 none) (by decide +kernel)
  have q_constant_RX11_7_52200 := hts (.constant RX11 7 (52200)) (by decide +kernel)
  have q_arrayClass_int := hts (.arrayClass .int) (by decide +kernel)
  have q_f_RX11_8_LimbSolverModel_figure_I := hts (.fieldLink RX11 8 "LimbSolverModel" "figure" "[I") (by decide +kernel)
  have hin11 : ∀ w ∈ wsX110, w ∈ wsX11_init := by decide +kernel
  have q_f_RX11_14_LimbSolverModel_length_I := hts (.fieldLink RX11 14 "LimbSolverModel" "length" "[I") (by decide +kernel)
  have q_f_RX11_17_LimbSolverModel_sign_I := hts (.fieldLink RX11 17 "LimbSolverModel" "sign" "[I") (by decide +kernel)
  have q_f_RX11_20_LimbSolverModel_top_I := hts (.fieldLink RX11 20 "LimbSolverModel" "top" "[I") (by decide +kernel)
  have q_f_RX11_23_LimbSolverModel_below_I := hts (.fieldLink RX11 23 "LimbSolverModel" "below" "[I") (by decide +kernel)
  have q_f_RX11_26_LimbSolverModel_n_I := hts (.fieldLink RX11 26 "LimbSolverModel" "n" "I") (by decide +kernel)
  have q_f_RX11_30_LimbSolverModel_pivotRow_I := hts (.fieldLink RX11 30 "LimbSolverModel" "pivotRow" "[I") (by decide +kernel)
  have q_arrayClass_long := hts (.arrayClass .long) (by decide +kernel)
  have q_f_RX11_33_LimbSolverModel_residue_J := hts (.fieldLink RX11 33 "LimbSolverModel" "residue" "[J") (by decide +kernel)
  have hl : lv_has ls 1 [(0, .ref (ad0 (k)))] := hl
  obtain ⟨ad, G, had0, hGG0⟩ : ∃ (ad : Nat → Nat) (G : Nat → va_E), ad = ad0 ∧ G = G0 := ⟨ad0, G0, rfl, rfl⟩
  have hP : va_P D vwCl (pw (k + 1) ad G) s.heap := by rw [had0, hGG0, ← hn]; exact hP
  have hD : va_D A (pw (k + 1) ad G) := by rw [had0, hGG0, ← hn]; exact hD
  have hl : lv_has ls 1 [(0, .ref (ad (k)))] := by rw [had0]; exact hl
  have hlo : ∀ i : Nat, i < k → ad i = ad0 i ∧ G i = G0 i := fun i hi => by rw [had0, hGG0]; exact ⟨rfl, rfl⟩
  have hak : ad k = ad0 k := by rw [had0]
  have hk0 : G (k) = .inr (11, [.null, .null, .null, .null, .null, .int (iZ (0)), .int (iZ (0)), .int (iZ (0)), .int (iZ (0)), .int (iZ (0)), .int (iZ (0)), .null, .int (iZ (0)), .null]) := by rw [hGG0]; exact hG0
  refine lv_aload_n hx hb dX11_init_0 rfl (lv_at hl 0 rfl) ?_
  refine zk_obj hx hb hown q_methodLink_RX11_1_objectInit q_instanceMethod_objectInit q_code_objectInit_0xb1_1_none (hl.1.trans hml.symm) dX11_init_1 (Nat.le_of_ble_eq_true rfl) (Nat.le_of_ble_eq_true rfl) ?_
  refine lv_aload_n hx hb dX11_init_4 rfl (lv_at hl 0 rfl) ?_
  refine zr_ldc hx hb 52200 (by decide) hown q_constant_RX11_7_52200 dX11_init_5 ?_
  refine zk_newI hx hb q_arrayClass_int hK 0 rfl hP hD hS hA (52200) (rfl) (by decide) (by show _ ≤ 7; omega) (by show _ ≤ 55122; omega) dX11_init_7 (fun ad G H ha7 hn7 hP hD hS => ?_)
  have hl : lv_has ls 1 [(0, .ref (ad (k)))] := by rw [(ha7 (k) (by omega)).1]; exact hl
  refine zk_st [.ref (ad (k + 1)), .ref (ad (k))] (by rw [(ha7 (k) (by omega)).1]) ?_
  have k7_0 : G (k) = .inr (11, [.null, .null, .null, .null, .null, .int (iZ (0)), .int (iZ (0)), .int (iZ (0)), .int (iZ (0)), .int (iZ (0)), .int (iZ (0)), .null, .int (iZ (0)), .null]) := by rw [(ha7 (k) (by omega)).2, hk0]
  have hlo : ∀ i : Nat, i < k → ad i = ad0 i ∧ G i = G0 i := fun i hi => ⟨((ha7 (i) (by omega))).1.trans (hlo i hi).1, ((ha7 (i) (by omega))).2.trans (hlo i hi).2⟩
  have hak : ad k = ad0 k := ((ha7 (k) (by omega))).1.trans hak
  have hP : va_P D vwCl (pw (k + 2) ad G) H := by rw [show k + 2 = k + 1 + 1 by omega]; exact hP
  have hD : va_D A (pw (k + 2) ad G) := by rw [show k + 2 = k + 1 + 1 by omega]; exact hD
  refine va_putF (D := D) (ci := 11) (v := .ref (ad (k + 1))) (ty := tyX11 0) (C := RX11) (T := TX11) (N := 14) hx hb hts hin11 tyX11 tyX11_ok nmX11 hown hK hP hD hS (k) (pw_at (by omega) (k7_0)) rfl 0 (by decide) q_f_RX11_8_LimbSolverModel_figure_I (fun _ h9 => h9) rfl hnm rfl (tyX11_ok 0 (by decide)) rfl rfl (Nat.le_of_ble_eq_true rfl) dX11_init_9 (fun H locs hP hD hS => ?_)
  rw [pw_set] at hP hD
  obtain ⟨G_9, hg9⟩ : ∃ g : Nat → va_E, g = zu G (k) (.inr (11, [.ref (ad (k + 1)), .null, .null, .null, .null, .int (iZ (0)), .int (iZ (0)), .int (iZ (0)), .int (iZ (0)), .int (iZ (0)), .int (iZ (0)), .null, .int (iZ (0)), .null])) := ⟨_, rfl⟩
  have hP : va_P D vwCl (pw (k + 2) ad G_9) H := by rw [hg9]; exact hP
  have hD : va_D A (pw (k + 2) ad G_9) := by rw [hg9]; exact hD
  have ho9 : ∀ i8 : Nat, i8 ≠ k → G_9 i8 = G i8 := fun i8 hk => by rw [hg9]; exact zu_n _ _ hk
  have he9 : G_9 (k) = .inr (11, [.ref (ad (k + 1)), .null, .null, .null, .null, .int (iZ (0)), .int (iZ (0)), .int (iZ (0)), .int (iZ (0)), .int (iZ (0)), .int (iZ (0)), .null, .int (iZ (0)), .null]) := by rw [hg9]; exact zu_s _ _ _
  have k9_1 : G_9 (k + 1) = aI cI (52200) (fun _ => 0) := (ho9 (k + 1) (by omega)).trans (hn7)
  have hlo : ∀ i : Nat, i < k → ad i = ad0 i ∧ G_9 i = G0 i := fun i hi => ⟨((show ad (i) = ad (i) ∧ G_9 (i) = G (i) from ⟨rfl, ho9 (i) (by omega)⟩)).1.trans (hlo i hi).1, ((show ad (i) = ad (i) ∧ G_9 (i) = G (i) from ⟨rfl, ho9 (i) (by omega)⟩)).2.trans (hlo i hi).2⟩
  refine lv_aload_n hx hb dX11_init_12 rfl (lv_at hl 0 rfl) ?_
  refine lv_sipush (v := iZ 190) hx hb dX11_init_13 (by decide) ?_
  refine zk_newI hx hb q_arrayClass_int hK 0 rfl hP hD hS hA (190) (rfl) (by decide) (by show _ ≤ 7; omega) (by show _ ≤ 55122; omega) dX11_init_16 (fun ad G H ha16 hn16 hP hD hS => ?_)
  have hl : lv_has ls 1 [(0, .ref (ad (k)))] := by rw [(ha16 (k) (by omega)).1]; exact hl
  refine zk_st [.ref (ad (k + 2)), .ref (ad (k))] (by rw [(ha16 (k) (by omega)).1]) ?_
  have k16_0 : G (k + 1) = aI cI (52200) (fun _ => 0) := by rw [(ha16 (k + 1) (by omega)).2, k9_1]
  have k16_1 : G (k) = .inr (11, [.ref (ad (k + 1)), .null, .null, .null, .null, .int (iZ (0)), .int (iZ (0)), .int (iZ (0)), .int (iZ (0)), .int (iZ (0)), .int (iZ (0)), .null, .int (iZ (0)), .null]) := by rw [(ha16 (k) (by omega)).2, he9, (ha16 (k + 1) (by omega)).1]
  have hlo : ∀ i : Nat, i < k → ad i = ad0 i ∧ G i = G0 i := fun i hi => ⟨((ha16 (i) (by omega))).1.trans (hlo i hi).1, ((ha16 (i) (by omega))).2.trans (hlo i hi).2⟩
  have hak : ad k = ad0 k := ((ha16 (k) (by omega))).1.trans hak
  have hP : va_P D vwCl (pw (k + 3) ad G) H := by rw [show k + 3 = k + 2 + 1 by omega]; exact hP
  have hD : va_D A (pw (k + 3) ad G) := by rw [show k + 3 = k + 2 + 1 by omega]; exact hD
  refine va_putF (D := D) (ci := 11) (v := .ref (ad (k + 2))) (ty := tyX11 1) (C := RX11) (T := TX11) (N := 14) hx hb hts hin11 tyX11 tyX11_ok nmX11 hown hK hP hD hS (k) (pw_at (by omega) (k16_1)) rfl 1 (by decide) q_f_RX11_14_LimbSolverModel_length_I (fun _ h9 => h9) rfl hnm rfl (tyX11_ok 1 (by decide)) rfl rfl (Nat.le_of_ble_eq_true rfl) dX11_init_18 (fun H locs hP hD hS => ?_)
  rw [pw_set] at hP hD
  obtain ⟨G_18, hg18⟩ : ∃ g : Nat → va_E, g = zu G (k) (.inr (11, [.ref (ad (k + 1)), .ref (ad (k + 2)), .null, .null, .null, .int (iZ (0)), .int (iZ (0)), .int (iZ (0)), .int (iZ (0)), .int (iZ (0)), .int (iZ (0)), .null, .int (iZ (0)), .null])) := ⟨_, rfl⟩
  have hP : va_P D vwCl (pw (k + 3) ad G_18) H := by rw [hg18]; exact hP
  have hD : va_D A (pw (k + 3) ad G_18) := by rw [hg18]; exact hD
  have ho18 : ∀ i8 : Nat, i8 ≠ k → G_18 i8 = G i8 := fun i8 hk => by rw [hg18]; exact zu_n _ _ hk
  have he18 : G_18 (k) = .inr (11, [.ref (ad (k + 1)), .ref (ad (k + 2)), .null, .null, .null, .int (iZ (0)), .int (iZ (0)), .int (iZ (0)), .int (iZ (0)), .int (iZ (0)), .int (iZ (0)), .null, .int (iZ (0)), .null]) := by rw [hg18]; exact zu_s _ _ _
  have k18_0 : G_18 (k + 1) = aI cI (52200) (fun _ => 0) := (ho18 (k + 1) (by omega)).trans (k16_0)
  have k18_2 : G_18 (k + 2) = aI cI (190) (fun _ => 0) := (ho18 (k + 2) (by omega)).trans (hn16)
  have hlo : ∀ i : Nat, i < k → ad i = ad0 i ∧ G_18 i = G0 i := fun i hi => ⟨((show ad (i) = ad (i) ∧ G_18 (i) = G (i) from ⟨rfl, ho18 (i) (by omega)⟩)).1.trans (hlo i hi).1, ((show ad (i) = ad (i) ∧ G_18 (i) = G (i) from ⟨rfl, ho18 (i) (by omega)⟩)).2.trans (hlo i hi).2⟩
  refine lv_aload_n hx hb dX11_init_21 rfl (lv_at hl 0 rfl) ?_
  refine lv_bipush (v := iZ 90) hx hb dX11_init_22 (by decide) ?_
  refine zk_newI hx hb q_arrayClass_int hK 0 rfl hP hD hS hA (90) (rfl) (by decide) (by show _ ≤ 7; omega) (by show _ ≤ 55122; omega) dX11_init_24 (fun ad G H ha24 hn24 hP hD hS => ?_)
  have hl : lv_has ls 1 [(0, .ref (ad (k)))] := by rw [(ha24 (k) (by omega)).1]; exact hl
  refine zk_st [.ref (ad (k + 3)), .ref (ad (k))] (by rw [(ha24 (k) (by omega)).1]) ?_
  have k24_0 : G (k + 1) = aI cI (52200) (fun _ => 0) := by rw [(ha24 (k + 1) (by omega)).2, k18_0]
  have k24_1 : G (k + 2) = aI cI (190) (fun _ => 0) := by rw [(ha24 (k + 2) (by omega)).2, k18_2]
  have k24_2 : G (k) = .inr (11, [.ref (ad (k + 1)), .ref (ad (k + 2)), .null, .null, .null, .int (iZ (0)), .int (iZ (0)), .int (iZ (0)), .int (iZ (0)), .int (iZ (0)), .int (iZ (0)), .null, .int (iZ (0)), .null]) := by rw [(ha24 (k) (by omega)).2, he18, (ha24 (k + 1) (by omega)).1, (ha24 (k + 2) (by omega)).1]
  have hlo : ∀ i : Nat, i < k → ad i = ad0 i ∧ G i = G0 i := fun i hi => ⟨((ha24 (i) (by omega))).1.trans (hlo i hi).1, ((ha24 (i) (by omega))).2.trans (hlo i hi).2⟩
  have hak : ad k = ad0 k := ((ha24 (k) (by omega))).1.trans hak
  have hP : va_P D vwCl (pw (k + 4) ad G) H := by rw [show k + 4 = k + 3 + 1 by omega]; exact hP
  have hD : va_D A (pw (k + 4) ad G) := by rw [show k + 4 = k + 3 + 1 by omega]; exact hD
  refine va_putF (D := D) (ci := 11) (v := .ref (ad (k + 3))) (ty := tyX11 2) (C := RX11) (T := TX11) (N := 14) hx hb hts hin11 tyX11 tyX11_ok nmX11 hown hK hP hD hS (k) (pw_at (by omega) (k24_2)) rfl 2 (by decide) q_f_RX11_17_LimbSolverModel_sign_I (fun _ h9 => h9) rfl hnm rfl (tyX11_ok 2 (by decide)) rfl rfl (Nat.le_of_ble_eq_true rfl) dX11_init_26 (fun H locs hP hD hS => ?_)
  rw [pw_set] at hP hD
  obtain ⟨G_26, hg26⟩ : ∃ g : Nat → va_E, g = zu G (k) (.inr (11, [.ref (ad (k + 1)), .ref (ad (k + 2)), .ref (ad (k + 3)), .null, .null, .int (iZ (0)), .int (iZ (0)), .int (iZ (0)), .int (iZ (0)), .int (iZ (0)), .int (iZ (0)), .null, .int (iZ (0)), .null])) := ⟨_, rfl⟩
  have hP : va_P D vwCl (pw (k + 4) ad G_26) H := by rw [hg26]; exact hP
  have hD : va_D A (pw (k + 4) ad G_26) := by rw [hg26]; exact hD
  have ho26 : ∀ i8 : Nat, i8 ≠ k → G_26 i8 = G i8 := fun i8 hk => by rw [hg26]; exact zu_n _ _ hk
  have he26 : G_26 (k) = .inr (11, [.ref (ad (k + 1)), .ref (ad (k + 2)), .ref (ad (k + 3)), .null, .null, .int (iZ (0)), .int (iZ (0)), .int (iZ (0)), .int (iZ (0)), .int (iZ (0)), .int (iZ (0)), .null, .int (iZ (0)), .null]) := by rw [hg26]; exact zu_s _ _ _
  have k26_0 : G_26 (k + 1) = aI cI (52200) (fun _ => 0) := (ho26 (k + 1) (by omega)).trans (k24_0)
  have k26_1 : G_26 (k + 2) = aI cI (190) (fun _ => 0) := (ho26 (k + 2) (by omega)).trans (k24_1)
  have k26_3 : G_26 (k + 3) = aI cI (90) (fun _ => 0) := (ho26 (k + 3) (by omega)).trans (hn24)
  have hlo : ∀ i : Nat, i < k → ad i = ad0 i ∧ G_26 i = G0 i := fun i hi => ⟨((show ad (i) = ad (i) ∧ G_26 (i) = G (i) from ⟨rfl, ho26 (i) (by omega)⟩)).1.trans (hlo i hi).1, ((show ad (i) = ad (i) ∧ G_26 (i) = G (i) from ⟨rfl, ho26 (i) (by omega)⟩)).2.trans (hlo i hi).2⟩
  refine lv_aload_n hx hb dX11_init_29 rfl (lv_at hl 0 rfl) ?_
  refine lv_sipush (v := iZ 1300) hx hb dX11_init_30 (by decide) ?_
  refine zk_newI hx hb q_arrayClass_int hK 0 rfl hP hD hS hA (1300) (rfl) (by decide) (by show _ ≤ 7; omega) (by show _ ≤ 55122; omega) dX11_init_33 (fun ad G H ha33 hn33 hP hD hS => ?_)
  have hl : lv_has ls 1 [(0, .ref (ad (k)))] := by rw [(ha33 (k) (by omega)).1]; exact hl
  refine zk_st [.ref (ad (k + 4)), .ref (ad (k))] (by rw [(ha33 (k) (by omega)).1]) ?_
  have k33_0 : G (k + 1) = aI cI (52200) (fun _ => 0) := by rw [(ha33 (k + 1) (by omega)).2, k26_0]
  have k33_1 : G (k + 2) = aI cI (190) (fun _ => 0) := by rw [(ha33 (k + 2) (by omega)).2, k26_1]
  have k33_2 : G (k + 3) = aI cI (90) (fun _ => 0) := by rw [(ha33 (k + 3) (by omega)).2, k26_3]
  have k33_3 : G (k) = .inr (11, [.ref (ad (k + 1)), .ref (ad (k + 2)), .ref (ad (k + 3)), .null, .null, .int (iZ (0)), .int (iZ (0)), .int (iZ (0)), .int (iZ (0)), .int (iZ (0)), .int (iZ (0)), .null, .int (iZ (0)), .null]) := by rw [(ha33 (k) (by omega)).2, he26, (ha33 (k + 1) (by omega)).1, (ha33 (k + 2) (by omega)).1, (ha33 (k + 3) (by omega)).1]
  have hlo : ∀ i : Nat, i < k → ad i = ad0 i ∧ G i = G0 i := fun i hi => ⟨((ha33 (i) (by omega))).1.trans (hlo i hi).1, ((ha33 (i) (by omega))).2.trans (hlo i hi).2⟩
  have hak : ad k = ad0 k := ((ha33 (k) (by omega))).1.trans hak
  have hP : va_P D vwCl (pw (k + 5) ad G) H := by rw [show k + 5 = k + 4 + 1 by omega]; exact hP
  have hD : va_D A (pw (k + 5) ad G) := by rw [show k + 5 = k + 4 + 1 by omega]; exact hD
  refine va_putF (D := D) (ci := 11) (v := .ref (ad (k + 4))) (ty := tyX11 3) (C := RX11) (T := TX11) (N := 14) hx hb hts hin11 tyX11 tyX11_ok nmX11 hown hK hP hD hS (k) (pw_at (by omega) (k33_3)) rfl 3 (by decide) q_f_RX11_20_LimbSolverModel_top_I (fun _ h9 => h9) rfl hnm rfl (tyX11_ok 3 (by decide)) rfl rfl (Nat.le_of_ble_eq_true rfl) dX11_init_35 (fun H locs hP hD hS => ?_)
  rw [pw_set] at hP hD
  obtain ⟨G_35, hg35⟩ : ∃ g : Nat → va_E, g = zu G (k) (.inr (11, [.ref (ad (k + 1)), .ref (ad (k + 2)), .ref (ad (k + 3)), .ref (ad (k + 4)), .null, .int (iZ (0)), .int (iZ (0)), .int (iZ (0)), .int (iZ (0)), .int (iZ (0)), .int (iZ (0)), .null, .int (iZ (0)), .null])) := ⟨_, rfl⟩
  have hP : va_P D vwCl (pw (k + 5) ad G_35) H := by rw [hg35]; exact hP
  have hD : va_D A (pw (k + 5) ad G_35) := by rw [hg35]; exact hD
  have ho35 : ∀ i8 : Nat, i8 ≠ k → G_35 i8 = G i8 := fun i8 hk => by rw [hg35]; exact zu_n _ _ hk
  have he35 : G_35 (k) = .inr (11, [.ref (ad (k + 1)), .ref (ad (k + 2)), .ref (ad (k + 3)), .ref (ad (k + 4)), .null, .int (iZ (0)), .int (iZ (0)), .int (iZ (0)), .int (iZ (0)), .int (iZ (0)), .int (iZ (0)), .null, .int (iZ (0)), .null]) := by rw [hg35]; exact zu_s _ _ _
  have k35_0 : G_35 (k + 1) = aI cI (52200) (fun _ => 0) := (ho35 (k + 1) (by omega)).trans (k33_0)
  have k35_1 : G_35 (k + 2) = aI cI (190) (fun _ => 0) := (ho35 (k + 2) (by omega)).trans (k33_1)
  have k35_2 : G_35 (k + 3) = aI cI (90) (fun _ => 0) := (ho35 (k + 3) (by omega)).trans (k33_2)
  have k35_4 : G_35 (k + 4) = aI cI (1300) (fun _ => 0) := (ho35 (k + 4) (by omega)).trans (hn33)
  have hlo : ∀ i : Nat, i < k → ad i = ad0 i ∧ G_35 i = G0 i := fun i hi => ⟨((show ad (i) = ad (i) ∧ G_35 (i) = G (i) from ⟨rfl, ho35 (i) (by omega)⟩)).1.trans (hlo i hi).1, ((show ad (i) = ad (i) ∧ G_35 (i) = G (i) from ⟨rfl, ho35 (i) (by omega)⟩)).2.trans (hlo i hi).2⟩
  refine lv_aload_n hx hb dX11_init_38 rfl (lv_at hl 0 rfl) ?_
  refine lv_sipush (v := iZ 1300) hx hb dX11_init_39 (by decide) ?_
  refine zk_newI hx hb q_arrayClass_int hK 0 rfl hP hD hS hA (1300) (rfl) (by decide) (by show _ ≤ 7; omega) (by show _ ≤ 55122; omega) dX11_init_42 (fun ad G H ha42 hn42 hP hD hS => ?_)
  have hl : lv_has ls 1 [(0, .ref (ad (k)))] := by rw [(ha42 (k) (by omega)).1]; exact hl
  refine zk_st [.ref (ad (k + 5)), .ref (ad (k))] (by rw [(ha42 (k) (by omega)).1]) ?_
  have k42_0 : G (k + 1) = aI cI (52200) (fun _ => 0) := by rw [(ha42 (k + 1) (by omega)).2, k35_0]
  have k42_1 : G (k + 2) = aI cI (190) (fun _ => 0) := by rw [(ha42 (k + 2) (by omega)).2, k35_1]
  have k42_2 : G (k + 3) = aI cI (90) (fun _ => 0) := by rw [(ha42 (k + 3) (by omega)).2, k35_2]
  have k42_3 : G (k + 4) = aI cI (1300) (fun _ => 0) := by rw [(ha42 (k + 4) (by omega)).2, k35_4]
  have k42_4 : G (k) = .inr (11, [.ref (ad (k + 1)), .ref (ad (k + 2)), .ref (ad (k + 3)), .ref (ad (k + 4)), .null, .int (iZ (0)), .int (iZ (0)), .int (iZ (0)), .int (iZ (0)), .int (iZ (0)), .int (iZ (0)), .null, .int (iZ (0)), .null]) := by rw [(ha42 (k) (by omega)).2, he35, (ha42 (k + 1) (by omega)).1, (ha42 (k + 2) (by omega)).1, (ha42 (k + 3) (by omega)).1, (ha42 (k + 4) (by omega)).1]
  have hlo : ∀ i : Nat, i < k → ad i = ad0 i ∧ G i = G0 i := fun i hi => ⟨((ha42 (i) (by omega))).1.trans (hlo i hi).1, ((ha42 (i) (by omega))).2.trans (hlo i hi).2⟩
  have hak : ad k = ad0 k := ((ha42 (k) (by omega))).1.trans hak
  have hP : va_P D vwCl (pw (k + 6) ad G) H := by rw [show k + 6 = k + 5 + 1 by omega]; exact hP
  have hD : va_D A (pw (k + 6) ad G) := by rw [show k + 6 = k + 5 + 1 by omega]; exact hD
  refine va_putF (D := D) (ci := 11) (v := .ref (ad (k + 5))) (ty := tyX11 4) (C := RX11) (T := TX11) (N := 14) hx hb hts hin11 tyX11 tyX11_ok nmX11 hown hK hP hD hS (k) (pw_at (by omega) (k42_4)) rfl 4 (by decide) q_f_RX11_23_LimbSolverModel_below_I (fun _ h9 => h9) rfl hnm rfl (tyX11_ok 4 (by decide)) rfl rfl (Nat.le_of_ble_eq_true rfl) dX11_init_44 (fun H locs hP hD hS => ?_)
  rw [pw_set] at hP hD
  obtain ⟨G_44, hg44⟩ : ∃ g : Nat → va_E, g = zu G (k) (.inr (11, [.ref (ad (k + 1)), .ref (ad (k + 2)), .ref (ad (k + 3)), .ref (ad (k + 4)), .ref (ad (k + 5)), .int (iZ (0)), .int (iZ (0)), .int (iZ (0)), .int (iZ (0)), .int (iZ (0)), .int (iZ (0)), .null, .int (iZ (0)), .null])) := ⟨_, rfl⟩
  have hP : va_P D vwCl (pw (k + 6) ad G_44) H := by rw [hg44]; exact hP
  have hD : va_D A (pw (k + 6) ad G_44) := by rw [hg44]; exact hD
  have ho44 : ∀ i8 : Nat, i8 ≠ k → G_44 i8 = G i8 := fun i8 hk => by rw [hg44]; exact zu_n _ _ hk
  have he44 : G_44 (k) = .inr (11, [.ref (ad (k + 1)), .ref (ad (k + 2)), .ref (ad (k + 3)), .ref (ad (k + 4)), .ref (ad (k + 5)), .int (iZ (0)), .int (iZ (0)), .int (iZ (0)), .int (iZ (0)), .int (iZ (0)), .int (iZ (0)), .null, .int (iZ (0)), .null]) := by rw [hg44]; exact zu_s _ _ _
  have k44_0 : G_44 (k + 1) = aI cI (52200) (fun _ => 0) := (ho44 (k + 1) (by omega)).trans (k42_0)
  have k44_1 : G_44 (k + 2) = aI cI (190) (fun _ => 0) := (ho44 (k + 2) (by omega)).trans (k42_1)
  have k44_2 : G_44 (k + 3) = aI cI (90) (fun _ => 0) := (ho44 (k + 3) (by omega)).trans (k42_2)
  have k44_3 : G_44 (k + 4) = aI cI (1300) (fun _ => 0) := (ho44 (k + 4) (by omega)).trans (k42_3)
  have k44_5 : G_44 (k + 5) = aI cI (1300) (fun _ => 0) := (ho44 (k + 5) (by omega)).trans (hn42)
  have hlo : ∀ i : Nat, i < k → ad i = ad0 i ∧ G_44 i = G0 i := fun i hi => ⟨((show ad (i) = ad (i) ∧ G_44 (i) = G (i) from ⟨rfl, ho44 (i) (by omega)⟩)).1.trans (hlo i hi).1, ((show ad (i) = ad (i) ∧ G_44 (i) = G (i) from ⟨rfl, ho44 (i) (by omega)⟩)).2.trans (hlo i hi).2⟩
  refine lv_aload_n hx hb dX11_init_47 rfl (lv_at hl 0 rfl) ?_
  refine lv_iconst (v := iZ 1) hx hb dX11_init_48 rfl ?_
  refine va_put (D := D) (ci := 11) (v := .int (iZ (1))) (ty := tyX11 5) (C := RX11) (T := TX11) (N := 14) hx hb hts hin11 tyX11 tyX11_ok nmX11 hown hK hP hD hS (k) (pw_at (by omega) (he44)) rfl 5 (by decide) q_f_RX11_26_LimbSolverModel_n_I (fun _ h9 => h9) rfl (tyX11_ok 5 (by decide)) rfl rfl (Nat.le_of_ble_eq_true rfl) dX11_init_49 (fun H locs hP hD hS => ?_)
  rw [pw_set] at hP hD
  obtain ⟨G_49, hg49⟩ : ∃ g : Nat → va_E, g = zu G_44 (k) (.inr (11, [.ref (ad (k + 1)), .ref (ad (k + 2)), .ref (ad (k + 3)), .ref (ad (k + 4)), .ref (ad (k + 5)), .int (iZ (1)), .int (iZ (0)), .int (iZ (0)), .int (iZ (0)), .int (iZ (0)), .int (iZ (0)), .null, .int (iZ (0)), .null])) := ⟨_, rfl⟩
  have hP : va_P D vwCl (pw (k + 6) ad G_49) H := by rw [hg49]; exact hP
  have hD : va_D A (pw (k + 6) ad G_49) := by rw [hg49]; exact hD
  have ho49 : ∀ i8 : Nat, i8 ≠ k → G_49 i8 = G_44 i8 := fun i8 hk => by rw [hg49]; exact zu_n _ _ hk
  have he49 : G_49 (k) = .inr (11, [.ref (ad (k + 1)), .ref (ad (k + 2)), .ref (ad (k + 3)), .ref (ad (k + 4)), .ref (ad (k + 5)), .int (iZ (1)), .int (iZ (0)), .int (iZ (0)), .int (iZ (0)), .int (iZ (0)), .int (iZ (0)), .null, .int (iZ (0)), .null]) := by rw [hg49]; exact zu_s _ _ _
  have k49_0 : G_49 (k + 1) = aI cI (52200) (fun _ => 0) := (ho49 (k + 1) (by omega)).trans (k44_0)
  have k49_1 : G_49 (k + 2) = aI cI (190) (fun _ => 0) := (ho49 (k + 2) (by omega)).trans (k44_1)
  have k49_2 : G_49 (k + 3) = aI cI (90) (fun _ => 0) := (ho49 (k + 3) (by omega)).trans (k44_2)
  have k49_3 : G_49 (k + 4) = aI cI (1300) (fun _ => 0) := (ho49 (k + 4) (by omega)).trans (k44_3)
  have k49_4 : G_49 (k + 5) = aI cI (1300) (fun _ => 0) := (ho49 (k + 5) (by omega)).trans (k44_5)
  have hlo : ∀ i : Nat, i < k → ad i = ad0 i ∧ G_49 i = G0 i := fun i hi => ⟨((show ad (i) = ad (i) ∧ G_49 (i) = G_44 (i) from ⟨rfl, ho49 (i) (by omega)⟩)).1.trans (hlo i hi).1, ((show ad (i) = ad (i) ∧ G_49 (i) = G_44 (i) from ⟨rfl, ho49 (i) (by omega)⟩)).2.trans (hlo i hi).2⟩
  refine lv_aload_n hx hb dX11_init_52 rfl (lv_at hl 0 rfl) ?_
  refine lv_bipush (v := iZ 6) hx hb dX11_init_53 (by decide) ?_
  refine zk_newI hx hb q_arrayClass_int hK 0 rfl hP hD hS hA (6) (rfl) (by decide) (by show _ ≤ 7; omega) (by show _ ≤ 55122; omega) dX11_init_55 (fun ad G H ha55 hn55 hP hD hS => ?_)
  have hl : lv_has ls 1 [(0, .ref (ad (k)))] := by rw [(ha55 (k) (by omega)).1]; exact hl
  refine zk_st [.ref (ad (k + 6)), .ref (ad (k))] (by rw [(ha55 (k) (by omega)).1]) ?_
  have k55_0 : G (k + 1) = aI cI (52200) (fun _ => 0) := by rw [(ha55 (k + 1) (by omega)).2, k49_0]
  have k55_1 : G (k + 2) = aI cI (190) (fun _ => 0) := by rw [(ha55 (k + 2) (by omega)).2, k49_1]
  have k55_2 : G (k + 3) = aI cI (90) (fun _ => 0) := by rw [(ha55 (k + 3) (by omega)).2, k49_2]
  have k55_3 : G (k + 4) = aI cI (1300) (fun _ => 0) := by rw [(ha55 (k + 4) (by omega)).2, k49_3]
  have k55_4 : G (k + 5) = aI cI (1300) (fun _ => 0) := by rw [(ha55 (k + 5) (by omega)).2, k49_4]
  have k55_5 : G (k) = .inr (11, [.ref (ad (k + 1)), .ref (ad (k + 2)), .ref (ad (k + 3)), .ref (ad (k + 4)), .ref (ad (k + 5)), .int (iZ (1)), .int (iZ (0)), .int (iZ (0)), .int (iZ (0)), .int (iZ (0)), .int (iZ (0)), .null, .int (iZ (0)), .null]) := by rw [(ha55 (k) (by omega)).2, he49, (ha55 (k + 1) (by omega)).1, (ha55 (k + 2) (by omega)).1, (ha55 (k + 3) (by omega)).1, (ha55 (k + 4) (by omega)).1, (ha55 (k + 5) (by omega)).1]
  have hlo : ∀ i : Nat, i < k → ad i = ad0 i ∧ G i = G0 i := fun i hi => ⟨((ha55 (i) (by omega))).1.trans (hlo i hi).1, ((ha55 (i) (by omega))).2.trans (hlo i hi).2⟩
  have hak : ad k = ad0 k := ((ha55 (k) (by omega))).1.trans hak
  have hP : va_P D vwCl (pw (k + 7) ad G) H := by rw [show k + 7 = k + 6 + 1 by omega]; exact hP
  have hD : va_D A (pw (k + 7) ad G) := by rw [show k + 7 = k + 6 + 1 by omega]; exact hD
  refine va_putF (D := D) (ci := 11) (v := .ref (ad (k + 6))) (ty := tyX11 11) (C := RX11) (T := TX11) (N := 14) hx hb hts hin11 tyX11 tyX11_ok nmX11 hown hK hP hD hS (k) (pw_at (by omega) (k55_5)) rfl 11 (by decide) q_f_RX11_30_LimbSolverModel_pivotRow_I (fun _ h9 => h9) rfl hnm rfl (tyX11_ok 11 (by decide)) rfl rfl (Nat.le_of_ble_eq_true rfl) dX11_init_57 (fun H locs hP hD hS => ?_)
  rw [pw_set] at hP hD
  obtain ⟨G_57, hg57⟩ : ∃ g : Nat → va_E, g = zu G (k) (.inr (11, [.ref (ad (k + 1)), .ref (ad (k + 2)), .ref (ad (k + 3)), .ref (ad (k + 4)), .ref (ad (k + 5)), .int (iZ (1)), .int (iZ (0)), .int (iZ (0)), .int (iZ (0)), .int (iZ (0)), .int (iZ (0)), .ref (ad (k + 6)), .int (iZ (0)), .null])) := ⟨_, rfl⟩
  have hP : va_P D vwCl (pw (k + 7) ad G_57) H := by rw [hg57]; exact hP
  have hD : va_D A (pw (k + 7) ad G_57) := by rw [hg57]; exact hD
  have ho57 : ∀ i8 : Nat, i8 ≠ k → G_57 i8 = G i8 := fun i8 hk => by rw [hg57]; exact zu_n _ _ hk
  have he57 : G_57 (k) = .inr (11, [.ref (ad (k + 1)), .ref (ad (k + 2)), .ref (ad (k + 3)), .ref (ad (k + 4)), .ref (ad (k + 5)), .int (iZ (1)), .int (iZ (0)), .int (iZ (0)), .int (iZ (0)), .int (iZ (0)), .int (iZ (0)), .ref (ad (k + 6)), .int (iZ (0)), .null]) := by rw [hg57]; exact zu_s _ _ _
  have k57_0 : G_57 (k + 1) = aI cI (52200) (fun _ => 0) := (ho57 (k + 1) (by omega)).trans (k55_0)
  have k57_1 : G_57 (k + 2) = aI cI (190) (fun _ => 0) := (ho57 (k + 2) (by omega)).trans (k55_1)
  have k57_2 : G_57 (k + 3) = aI cI (90) (fun _ => 0) := (ho57 (k + 3) (by omega)).trans (k55_2)
  have k57_3 : G_57 (k + 4) = aI cI (1300) (fun _ => 0) := (ho57 (k + 4) (by omega)).trans (k55_3)
  have k57_4 : G_57 (k + 5) = aI cI (1300) (fun _ => 0) := (ho57 (k + 5) (by omega)).trans (k55_4)
  have k57_6 : G_57 (k + 6) = aI cI (6) (fun _ => 0) := (ho57 (k + 6) (by omega)).trans (hn55)
  have hlo : ∀ i : Nat, i < k → ad i = ad0 i ∧ G_57 i = G0 i := fun i hi => ⟨((show ad (i) = ad (i) ∧ G_57 (i) = G (i) from ⟨rfl, ho57 (i) (by omega)⟩)).1.trans (hlo i hi).1, ((show ad (i) = ad (i) ∧ G_57 (i) = G (i) from ⟨rfl, ho57 (i) (by omega)⟩)).2.trans (hlo i hi).2⟩
  refine lv_aload_n hx hb dX11_init_60 rfl (lv_at hl 0 rfl) ?_
  refine lv_bipush (v := iZ 36) hx hb dX11_init_61 (by decide) ?_
  refine zk_newJ hx hb q_arrayClass_long hK 1 rfl hP hD hS hA (36) (rfl) (by decide) (by show _ ≤ 7; omega) (by show _ ≤ 55122; omega) dX11_init_63 (fun ad G H ha63 hn63 hP hD hS => ?_)
  have hl : lv_has ls 1 [(0, .ref (ad (k)))] := by rw [(ha63 (k) (by omega)).1]; exact hl
  refine zk_st [.ref (ad (k + 7)), .ref (ad (k))] (by rw [(ha63 (k) (by omega)).1]) ?_
  have k63_0 : G (k + 1) = aI cI (52200) (fun _ => 0) := by rw [(ha63 (k + 1) (by omega)).2, k57_0]
  have k63_1 : G (k + 2) = aI cI (190) (fun _ => 0) := by rw [(ha63 (k + 2) (by omega)).2, k57_1]
  have k63_2 : G (k + 3) = aI cI (90) (fun _ => 0) := by rw [(ha63 (k + 3) (by omega)).2, k57_2]
  have k63_3 : G (k + 4) = aI cI (1300) (fun _ => 0) := by rw [(ha63 (k + 4) (by omega)).2, k57_3]
  have k63_4 : G (k + 5) = aI cI (1300) (fun _ => 0) := by rw [(ha63 (k + 5) (by omega)).2, k57_4]
  have k63_5 : G (k + 6) = aI cI (6) (fun _ => 0) := by rw [(ha63 (k + 6) (by omega)).2, k57_6]
  have k63_6 : G (k) = .inr (11, [.ref (ad (k + 1)), .ref (ad (k + 2)), .ref (ad (k + 3)), .ref (ad (k + 4)), .ref (ad (k + 5)), .int (iZ (1)), .int (iZ (0)), .int (iZ (0)), .int (iZ (0)), .int (iZ (0)), .int (iZ (0)), .ref (ad (k + 6)), .int (iZ (0)), .null]) := by rw [(ha63 (k) (by omega)).2, he57, (ha63 (k + 1) (by omega)).1, (ha63 (k + 2) (by omega)).1, (ha63 (k + 3) (by omega)).1, (ha63 (k + 4) (by omega)).1, (ha63 (k + 5) (by omega)).1, (ha63 (k + 6) (by omega)).1]
  have hlo : ∀ i : Nat, i < k → ad i = ad0 i ∧ G i = G0 i := fun i hi => ⟨((ha63 (i) (by omega))).1.trans (hlo i hi).1, ((ha63 (i) (by omega))).2.trans (hlo i hi).2⟩
  have hak : ad k = ad0 k := ((ha63 (k) (by omega))).1.trans hak
  have hP : va_P D vwCl (pw (k + 8) ad G) H := by rw [show k + 8 = k + 7 + 1 by omega]; exact hP
  have hD : va_D A (pw (k + 8) ad G) := by rw [show k + 8 = k + 7 + 1 by omega]; exact hD
  refine va_putF (D := D) (ci := 11) (v := .ref (ad (k + 7))) (ty := tyX11 13) (C := RX11) (T := TX11) (N := 14) hx hb hts hin11 tyX11 tyX11_ok nmX11 hown hK hP hD hS (k) (pw_at (by omega) (k63_6)) rfl 13 (by decide) q_f_RX11_33_LimbSolverModel_residue_J (fun _ h9 => h9) rfl hnm rfl (tyX11_ok 13 (by decide)) rfl rfl (Nat.le_of_ble_eq_true rfl) dX11_init_65 (fun H locs hP hD hS => ?_)
  rw [pw_set] at hP hD
  obtain ⟨G_65, hg65⟩ : ∃ g : Nat → va_E, g = zu G (k) (.inr (11, [.ref (ad (k + 1)), .ref (ad (k + 2)), .ref (ad (k + 3)), .ref (ad (k + 4)), .ref (ad (k + 5)), .int (iZ (1)), .int (iZ (0)), .int (iZ (0)), .int (iZ (0)), .int (iZ (0)), .int (iZ (0)), .ref (ad (k + 6)), .int (iZ (0)), .ref (ad (k + 7))])) := ⟨_, rfl⟩
  have hP : va_P D vwCl (pw (k + 8) ad G_65) H := by rw [hg65]; exact hP
  have hD : va_D A (pw (k + 8) ad G_65) := by rw [hg65]; exact hD
  have ho65 : ∀ i8 : Nat, i8 ≠ k → G_65 i8 = G i8 := fun i8 hk => by rw [hg65]; exact zu_n _ _ hk
  have he65 : G_65 (k) = .inr (11, [.ref (ad (k + 1)), .ref (ad (k + 2)), .ref (ad (k + 3)), .ref (ad (k + 4)), .ref (ad (k + 5)), .int (iZ (1)), .int (iZ (0)), .int (iZ (0)), .int (iZ (0)), .int (iZ (0)), .int (iZ (0)), .ref (ad (k + 6)), .int (iZ (0)), .ref (ad (k + 7))]) := by rw [hg65]; exact zu_s _ _ _
  have k65_0 : G_65 (k + 1) = aI cI (52200) (fun _ => 0) := (ho65 (k + 1) (by omega)).trans (k63_0)
  have k65_1 : G_65 (k + 2) = aI cI (190) (fun _ => 0) := (ho65 (k + 2) (by omega)).trans (k63_1)
  have k65_2 : G_65 (k + 3) = aI cI (90) (fun _ => 0) := (ho65 (k + 3) (by omega)).trans (k63_2)
  have k65_3 : G_65 (k + 4) = aI cI (1300) (fun _ => 0) := (ho65 (k + 4) (by omega)).trans (k63_3)
  have k65_4 : G_65 (k + 5) = aI cI (1300) (fun _ => 0) := (ho65 (k + 5) (by omega)).trans (k63_4)
  have k65_5 : G_65 (k + 6) = aI cI (6) (fun _ => 0) := (ho65 (k + 6) (by omega)).trans (k63_5)
  have k65_7 : G_65 (k + 7) = aJ cJ (36) (fun _ => 0) := (ho65 (k + 7) (by omega)).trans (hn63)
  have hlo : ∀ i : Nat, i < k → ad i = ad0 i ∧ G_65 i = G0 i := fun i hi => ⟨((show ad (i) = ad (i) ∧ G_65 (i) = G (i) from ⟨rfl, ho65 (i) (by omega)⟩)).1.trans (hlo i hi).1, ((show ad (i) = ad (i) ∧ G_65 (i) = G (i) from ⟨rfl, ho65 (i) (by omega)⟩)).2.trans (hlo i hi).2⟩
  refine lv_aload_n hx hb dX11_init_68 rfl (lv_at hl 0 rfl) ?_
  refine zc_Vv (As := []) (rest := []) (wr := []) ⟨hx, hb, hml, hown, hts⟩ (k_mclear l D cI cJ cE cF cR _ ad G_65 (k) (_) (_) (_) (he65) (k65_0) (k65_1) (k65_2) (by omega)) (cwV 0 hts gX11_init_X11_clear rfl rfl rfl (by decide +kernel) ⟨Nat.le_of_ble_eq_true rfl, Nat.le_of_ble_eq_true rfl⟩) hN hK hP hD hS hA (List.range (k + 8)) [] (pw_all _ _ _) rfl (pw_nd _) rfl (fun _ h9 => nomatch h9) (q0 := k) (ci := 11) rfl rfl (pw_at (by omega) (he65)) rfl hl.1 (Nat.le_of_ble_eq_true rfl) dX11_init_69 ⟨by show _ ≤ 7; omega, by show _ ≤ 55122; omega⟩ (fun w1 H locs hp hP hD hS => ?_)
  obtain ⟨G9, rfl, ⟨hm9, F, Ln, Sg, hf9, hl9, hs9, hA9⟩, ho9⟩ := hp
  have hlo : ∀ i : Nat, i < k → ad i = ad0 i ∧ G9 i = G0 i := fun i hi => ⟨(hlo i hi).1, (ho9 i (by omega) (by omega) (by omega) (by omega)).trans (hlo i hi).2⟩
  have hP : va_P D vwCl (pw (k + 8) ad G9) H := hP
  have hD : va_D A (pw (k + 8) ad G9) := hD
  have k69_3 : G9 (k + 4) = aI cI (1300) (fun _ => 0) := (ho9 (k + 4) (by omega) (by omega) (by omega) (by omega)).trans (k65_3)
  have k69_4 : G9 (k + 5) = aI cI (1300) (fun _ => 0) := (ho9 (k + 5) (by omega) (by omega) (by omega) (by omega)).trans (k65_4)
  have k69_5 : G9 (k + 6) = aI cI (6) (fun _ => 0) := (ho9 (k + 6) (by omega) (by omega) (by omega) (by omega)).trans (k65_5)
  have k69_6 : G9 (k + 7) = aJ cJ (36) (fun _ => 0) := (ho9 (k + 7) (by omega) (by omega) (by omega) (by omega)).trans (k65_7)
  exact zr_vret hQ hx hb hr hlk dX11_init_72 hK hP hD hS (by omega) (by omega) (⟨ad, G9, rfl, hlo, hak, ⟨F, Ln, Sg, _, _, _, _, hm9, hf9, hl9, hs9, k69_3, k69_4, k69_5, k69_6, hA9⟩⟩)
