theorem hfX0 : ∀ j : Nat, j < 9 → defaultValue (tyX0 j) = vp_V [.null, .null, .null, .null, .null, .null, .null, .null, .null] j := fun j hj => match j, hj with
  | 0, _ => rfl
  | 1, _ => rfl
  | 2, _ => rfl
  | 3, _ => rfl
  | 4, _ => rfl
  | 5, _ => rfl
  | 6, _ => rfl
  | 7, _ => rfl
  | 8, _ => rfl
  | j + 9, h => absurd h (by omega)

theorem hfX1 : ∀ j : Nat, j < 2 → defaultValue (tyX1 j) = vp_V [.null, .null] j := fun j hj => match j, hj with
  | 0, _ => rfl
  | 1, _ => rfl
  | j + 2, h => absurd h (by omega)

theorem hfX2 : ∀ j : Nat, j < 17 → defaultValue (tyX2 j) = vp_V [.null, .null, .null, .null, .null, .null, .null, .null, .null, .null, .null, .null, .int (iZ (0)), .int (iZ (0)), .int (iZ (0)), .int (iZ (0)), .int (iZ (0))] j := fun j hj => match j, hj with
  | 0, _ => rfl
  | 1, _ => rfl
  | 2, _ => rfl
  | 3, _ => rfl
  | 4, _ => rfl
  | 5, _ => rfl
  | 6, _ => rfl
  | 7, _ => rfl
  | 8, _ => rfl
  | 9, _ => rfl
  | 10, _ => rfl
  | 11, _ => rfl
  | 12, _ => rfl
  | 13, _ => rfl
  | 14, _ => rfl
  | 15, _ => rfl
  | 16, _ => rfl
  | j + 17, h => absurd h (by omega)

theorem hfX3 : ∀ j : Nat, j < 2 → defaultValue (tyX3 j) = vp_V [.null, .int (iZ (0))] j := fun j hj => match j, hj with
  | 0, _ => rfl
  | 1, _ => rfl
  | j + 2, h => absurd h (by omega)

theorem hfX4 : ∀ j : Nat, j < 3 → defaultValue (tyX4 j) = vp_V [.null, .null, .int (iZ (0))] j := fun j hj => match j, hj with
  | 0, _ => rfl
  | 1, _ => rfl
  | 2, _ => rfl
  | j + 3, h => absurd h (by omega)

theorem hfX5 : ∀ j : Nat, j < 9 → defaultValue (tyX5 j) = vp_V [.null, .null, .null, .null, .null, .long (lZ (0)), .long (lZ (0)), .long (lZ (0)), .long (lZ (0))] j := fun j hj => match j, hj with
  | 0, _ => rfl
  | 1, _ => rfl
  | 2, _ => rfl
  | 3, _ => rfl
  | 4, _ => rfl
  | 5, _ => rfl
  | 6, _ => rfl
  | 7, _ => rfl
  | 8, _ => rfl
  | j + 9, h => absurd h (by omega)

theorem hfX6 : ∀ j : Nat, j < 3 → defaultValue (tyX6 j) = vp_V [.null, .null, .int (iZ (0))] j := fun j hj => match j, hj with
  | 0, _ => rfl
  | 1, _ => rfl
  | 2, _ => rfl
  | j + 3, h => absurd h (by omega)

theorem hfX7 : ∀ j : Nat, j < 1 → defaultValue (tyX7 j) = vp_V [.null] j := fun j hj => match j, hj with
  | 0, _ => rfl
  | j + 1, h => absurd h (by omega)

theorem hfX8 : ∀ j : Nat, j < 4 → defaultValue (tyX8 j) = vp_V [.null, .null, .null, .int (iZ (0))] j := fun j hj => match j, hj with
  | 0, _ => rfl
  | 1, _ => rfl
  | 2, _ => rfl
  | 3, _ => rfl
  | j + 4, h => absurd h (by omega)

theorem hfX9 : ∀ j : Nat, j < 2 → defaultValue (tyX9 j) = vp_V [.null, .int (iZ (0))] j := fun j hj => match j, hj with
  | 0, _ => rfl
  | 1, _ => rfl
  | j + 2, h => absurd h (by omega)

theorem hfX10 : ∀ j : Nat, j < 6 → defaultValue (tyX10 j) = vp_V [.null, .null, .null, .null, .int (iZ (0)), .int (iZ (0))] j := fun j hj => match j, hj with
  | 0, _ => rfl
  | 1, _ => rfl
  | 2, _ => rfl
  | 3, _ => rfl
  | 4, _ => rfl
  | 5, _ => rfl
  | j + 6, h => absurd h (by omega)

theorem hfX11 : ∀ j : Nat, j < 14 → defaultValue (tyX11 j) = vp_V [.null, .null, .null, .null, .null, .int (iZ (0)), .int (iZ (0)), .int (iZ (0)), .int (iZ (0)), .int (iZ (0)), .int (iZ (0)), .null, .int (iZ (0)), .null] j := fun j hj => match j, hj with
  | 0, _ => rfl
  | 1, _ => rfl
  | 2, _ => rfl
  | 3, _ => rfl
  | 4, _ => rfl
  | 5, _ => rfl
  | 6, _ => rfl
  | 7, _ => rfl
  | 8, _ => rfl
  | 9, _ => rfl
  | 10, _ => rfl
  | 11, _ => rfl
  | 12, _ => rfl
  | 13, _ => rfl
  | j + 14, h => absurd h (by omega)

set_option maxHeartbeats 4000000 in
set_option maxRecDepth 100000 in
/-- Whole: a room of r words -/
theorem k_whole (l : Launch) (D : va_G) (cI cJ cE cF cR : ClassId) (n k : Nat) (ad0 : Nat → Nat) (G0 : Nat → va_E) (hn : n = k + 1) (r : Nat) (hr1 : 1 ≤ r) (hr9 : r ≤ 1000) (hG0 : G0 k = .inr (9, [.null, .int (iZ (0))])) : Kv l D (zty cI cJ cE cF cR) yX9_init wsX9_init ({ frames := 1, cells := 1, slots := r, locals := 12 } : Room) (1) (r) [.ref (ad0 (k)), .int (iZ (((r : Nat) : Int)))] (pw n ad0 G0) (kPo k 2 ad0 G0 (fun ad G => pHas cI ad G k r)) := by
  unfold Kv
  refine zsK (Qc := zQv D _ _) (cc := cX9_init) (maxL := 2) (ret := none) (by decide) rfl (Nat.le_of_ble_eq_true rfl) ?_
  intro zp ze s zm below meth zc ls A args Q hQ hx hb hr hts hown hlk hml hnm hN hAO hA hK hP hD hS hl
  have q_methodLink_RX9_3_objectInit := hts (.methodLink RX9 3 objectInit) (by decide +kernel)
  have q_instanceMethod_objectInit := hts (.instanceMethod objectInit) (by decide +kernel)
  have q_code_objectInit_0xb1_1_none := hts (.code objectInit ⟨#[0xb1]⟩ 1 none) (by decide +kernel)
  have q_arrayClass_int := hts (.arrayClass .int) (by decide +kernel)
  have q_f_RX9_9_Whole_words_I := hts (.fieldLink RX9 9 "LimbSolver$Whole" "words" "[I") (by decide +kernel)
  have hin9 : ∀ w ∈ wsX90, w ∈ wsX9_init := by decide +kernel
  have q_f_RX9_15_Whole_count_I := hts (.fieldLink RX9 15 "LimbSolver$Whole" "count" "I") (by decide +kernel)
  have hl : lv_has ls 2 [(0, .ref (ad0 (k))), (1, .int (iZ (((r : Nat) : Int))))] := hl
  obtain ⟨ad, G, had0, hGG0⟩ : ∃ (ad : Nat → Nat) (G : Nat → va_E), ad = ad0 ∧ G = G0 := ⟨ad0, G0, rfl, rfl⟩
  have hP : va_P D vwCl (pw (k + 1) ad G) s.heap := by rw [had0, hGG0, ← hn]; exact hP
  have hD : va_D A (pw (k + 1) ad G) := by rw [had0, hGG0, ← hn]; exact hD
  have hl : lv_has ls 2 [(0, .ref (ad (k))), (1, .int (iZ (((r : Nat) : Int))))] := by rw [had0]; exact hl
  have hlo : ∀ i : Nat, i < k → ad i = ad0 i ∧ G i = G0 i := fun i hi => by rw [had0, hGG0]; exact ⟨rfl, rfl⟩
  have hak : ad k = ad0 k := by rw [had0]
  have hk0 : G (k) = .inr (9, [.null, .int (iZ (0))]) := by rw [hGG0]; exact hG0
  refine lv_aload_n hx hb dX9_init_0 rfl (lv_at hl 0 rfl) ?_
  refine zk_obj hx hb hown q_methodLink_RX9_3_objectInit q_instanceMethod_objectInit q_code_objectInit_0xb1_1_none (hl.1.trans hml.symm) dX9_init_1 (Nat.le_of_ble_eq_true rfl) (Nat.le_of_ble_eq_true rfl) ?_
  refine lv_aload_n hx hb dX9_init_4 rfl (lv_at hl 0 rfl) ?_
  refine lv_iload_n hx hb dX9_init_5 rfl (lv_at hl 1 rfl) ?_
  refine lv_iconst (v := iZ 1) hx hb dX9_init_6 rfl ?_
  refine zr_icmp_ge hx hb 14 ⟨by omega, by omega⟩ ⟨by omega, by omega⟩ dX9_init_7 (by decide) (fun h_7 => ?_) (fun h_7 => ?_)
  · refine lv_iload_n hx hb dX9_init_14 rfl (lv_at hl 1 rfl) ?_
    refine zk_newI hx hb q_arrayClass_int hK 0 rfl hP hD hS hA (r) (rfl) (by omega) (by show _ ≤ 1; omega) (by show _ ≤ r; omega) dX9_init_15 (fun ad G H ha15 hn15 hP hD hS => ?_)
    have hl : lv_has ls 2 [(0, .ref (ad (k))), (1, .int (iZ (((r : Nat) : Int))))] := by rw [(ha15 (k) (by omega)).1]; exact hl
    refine zk_st [.ref (ad (k + 1)), .ref (ad (k))] (by rw [(ha15 (k) (by omega)).1]) ?_
    have k15_0 : G (k) = .inr (9, [.null, .int (iZ (0))]) := by rw [(ha15 (k) (by omega)).2, hk0]
    have hlo : ∀ i : Nat, i < k → ad i = ad0 i ∧ G i = G0 i := fun i hi => ⟨((ha15 (i) (by omega))).1.trans (hlo i hi).1, ((ha15 (i) (by omega))).2.trans (hlo i hi).2⟩
    have hak : ad k = ad0 k := ((ha15 (k) (by omega))).1.trans hak
    have hP : va_P D vwCl (pw (k + 2) ad G) H := by rw [show k + 2 = k + 1 + 1 by omega]; exact hP
    have hD : va_D A (pw (k + 2) ad G) := by rw [show k + 2 = k + 1 + 1 by omega]; exact hD
    refine va_putF (D := D) (ci := 9) (v := .ref (ad (k + 1))) (ty := tyX9 0) (C := RX9) (T := TX9) (N := 2) hx hb hts hin9 tyX9 tyX9_ok nmX9 hown hK hP hD hS (k) (pw_at (by omega) (k15_0)) rfl 0 (by decide) q_f_RX9_9_Whole_words_I (fun _ h9 => h9) rfl hnm rfl (tyX9_ok 0 (by decide)) rfl rfl (Nat.le_of_ble_eq_true rfl) dX9_init_17 (fun H locs hP hD hS => ?_)
    rw [pw_set] at hP hD
    obtain ⟨G_17, hg17⟩ : ∃ g : Nat → va_E, g = zu G (k) (.inr (9, [.ref (ad (k + 1)), .int (iZ (0))])) := ⟨_, rfl⟩
    have hP : va_P D vwCl (pw (k + 2) ad G_17) H := by rw [hg17]; exact hP
    have hD : va_D A (pw (k + 2) ad G_17) := by rw [hg17]; exact hD
    have ho17 : ∀ i8 : Nat, i8 ≠ k → G_17 i8 = G i8 := fun i8 hk => by rw [hg17]; exact zu_n _ _ hk
    have he17 : G_17 (k) = .inr (9, [.ref (ad (k + 1)), .int (iZ (0))]) := by rw [hg17]; exact zu_s _ _ _
    have k17_1 : G_17 (k + 1) = aI cI (r) (fun _ => 0) := (ho17 (k + 1) (by omega)).trans (hn15)
    have hlo : ∀ i : Nat, i < k → ad i = ad0 i ∧ G_17 i = G0 i := fun i hi => ⟨((show ad (i) = ad (i) ∧ G_17 (i) = G (i) from ⟨rfl, ho17 (i) (by omega)⟩)).1.trans (hlo i hi).1, ((show ad (i) = ad (i) ∧ G_17 (i) = G (i) from ⟨rfl, ho17 (i) (by omega)⟩)).2.trans (hlo i hi).2⟩
    refine lv_aload_n hx hb dX9_init_20 rfl (lv_at hl 0 rfl) ?_
    refine lv_iconst (v := iZ 0) hx hb dX9_init_21 rfl ?_
    refine va_put (D := D) (ci := 9) (v := .int (iZ (0))) (ty := tyX9 1) (C := RX9) (T := TX9) (N := 2) hx hb hts hin9 tyX9 tyX9_ok nmX9 hown hK hP hD hS (k) (pw_at (by omega) (he17)) rfl 1 (by decide) q_f_RX9_15_Whole_count_I (fun _ h9 => h9) rfl (tyX9_ok 1 (by decide)) rfl rfl (Nat.le_of_ble_eq_true rfl) dX9_init_22 (fun H locs hP hD hS => ?_)
    rw [pw_set] at hP hD
    obtain ⟨G_22, hg22⟩ : ∃ g : Nat → va_E, g = zu G_17 (k) (.inr (9, [.ref (ad (k + 1)), .int (iZ (0))])) := ⟨_, rfl⟩
    have hP : va_P D vwCl (pw (k + 2) ad G_22) H := by rw [hg22]; exact hP
    have hD : va_D A (pw (k + 2) ad G_22) := by rw [hg22]; exact hD
    have ho22 : ∀ i8 : Nat, i8 ≠ k → G_22 i8 = G_17 i8 := fun i8 hk => by rw [hg22]; exact zu_n _ _ hk
    have he22 : G_22 (k) = .inr (9, [.ref (ad (k + 1)), .int (iZ (0))]) := by rw [hg22]; exact zu_s _ _ _
    have k22_0 : G_22 (k + 1) = aI cI (r) (fun _ => 0) := (ho22 (k + 1) (by omega)).trans (k17_1)
    have hlo : ∀ i : Nat, i < k → ad i = ad0 i ∧ G_22 i = G0 i := fun i hi => ⟨((show ad (i) = ad (i) ∧ G_22 (i) = G_17 (i) from ⟨rfl, ho22 (i) (by omega)⟩)).1.trans (hlo i hi).1, ((show ad (i) = ad (i) ∧ G_22 (i) = G_17 (i) from ⟨rfl, ho22 (i) (by omega)⟩)).2.trans (hlo i hi).2⟩
    exact zr_vret hQ hx hb hr hlk dX9_init_25 hK hP hD hS (by omega) (by omega) (⟨ad, G_22, rfl, hlo, hak, ⟨0, _, he22, k22_0⟩⟩)
  · exfalso; omega

set_option maxHeartbeats 4000000 in
set_option maxRecDepth 100000 in
/-- Entry -/
theorem k_entry (l : Launch) (D : va_G) (cI cJ cE cF cR : ClassId) (n k : Nat) (ad0 : Nat → Nat) (G0 : Nat → va_E) (hn : n = k + 1) (r : Nat) (hr1 : 1 ≤ r) (hr9 : r ≤ 1000) (hG0 : G0 k = .inr (3, [.null, .int (iZ (0))])) : Kv l D (zty cI cJ cE cF cR) yX3_init wsX3_init ({ frames := 2, cells := 2, slots := r + 2, locals := 33 } : Room) (2) (r + 2) [.ref (ad0 (k)), .int (iZ (((r : Nat) : Int)))] (pw n ad0 G0) (kPo k 3 ad0 G0 (fun ad G => pEh cI ad G k r)) := by
  unfold Kv
  refine zsK (Qc := zQv D _ _) (cc := cX3_init) (maxL := 2) (ret := none) (by decide) rfl (Nat.le_of_ble_eq_true rfl) ?_
  intro zp ze s zm below meth zc ls A args Q hQ hx hb hr hts hown hlk hml hnm hN hAO hA hK hP hD hS hl
  have q_methodLink_RX3_1_objectInit := hts (.methodLink RX3 1 objectInit) (by decide +kernel)
  have q_instanceMethod_objectInit := hts (.instanceMethod objectInit) (by decide +kernel)
  have q_code_objectInit_0xb1_1_none := hts (.code objectInit ⟨#[0xb1]⟩ 1 none) (by decide +kernel)
  have hin9 : ∀ w ∈ wsX90, w ∈ wsX3_init := by decide +kernel
  have q_classLink_RX3_7_RX9 := hts (.classLink RX3 7 RX9) (by decide +kernel)
  have q_instantiable_RX9_2 := hts (.instantiable RX9 2) (by decide +kernel)
  have q_initialized_RX9 := hts (.initialized RX9) (by decide +kernel)
  have q_methodLink_RX3_9_yX9_init := hts (.methodLink RX3 9 yX9_init) (by decide +kernel)
  have q_instanceMethod_yX9_init := hts (.instanceMethod yX9_init) (by decide +kernel)
  have q_f_RX3_12_Entry_amount_LWhole := hts (.fieldLink RX3 12 "LimbSolver$Entry" "amount" "LLimbSolver$Whole;") (by decide +kernel)
  have hin3 : ∀ w ∈ wsX30, w ∈ wsX3_init := by decide +kernel
  have q_f_RX3_18_Entry_sign_I := hts (.fieldLink RX3 18 "LimbSolver$Entry" "sign" "I") (by decide +kernel)
  have hl : lv_has ls 2 [(0, .ref (ad0 (k))), (1, .int (iZ (((r : Nat) : Int))))] := hl
  obtain ⟨ad, G, had0, hGG0⟩ : ∃ (ad : Nat → Nat) (G : Nat → va_E), ad = ad0 ∧ G = G0 := ⟨ad0, G0, rfl, rfl⟩
  have hP : va_P D vwCl (pw (k + 1) ad G) s.heap := by rw [had0, hGG0, ← hn]; exact hP
  have hD : va_D A (pw (k + 1) ad G) := by rw [had0, hGG0, ← hn]; exact hD
  have hl : lv_has ls 2 [(0, .ref (ad (k))), (1, .int (iZ (((r : Nat) : Int))))] := by rw [had0]; exact hl
  have hlo : ∀ i : Nat, i < k → ad i = ad0 i ∧ G i = G0 i := fun i hi => by rw [had0, hGG0]; exact ⟨rfl, rfl⟩
  have hak : ad k = ad0 k := by rw [had0]
  have hk0 : G (k) = .inr (3, [.null, .int (iZ (0))]) := by rw [hGG0]; exact hG0
  refine lv_aload_n hx hb dX3_init_0 rfl (lv_at hl 0 rfl) ?_
  refine zk_obj hx hb hown q_methodLink_RX3_1_objectInit q_instanceMethod_objectInit q_code_objectInit_0xb1_1_none (hl.1.trans hml.symm) dX3_init_1 (Nat.le_of_ble_eq_true rfl) (Nat.le_of_ble_eq_true rfl) ?_
  refine lv_aload_n hx hb dX3_init_4 rfl (lv_at hl 0 rfl) ?_
  refine zk_new (D := D) (C := RX9) (T := TX9) (N := 2) (ci := 9) hx hb hts hin9 tyX9 tyX9_ok hown q_classLink_RX3_7_RX9 q_instantiable_RX9_2 q_initialized_RX9 hK hP hD hS hA rfl [.null, .int (iZ (0))] (hfX9) (by show _ ≤ 2; omega) (by show _ ≤ r + 2; omega) dX3_init_5 (fun ad G H ha5 hn5 hP hD hS => ?_)
  have hl : lv_has ls 2 [(0, .ref (ad (k))), (1, .int (iZ (((r : Nat) : Int))))] := by rw [(ha5 (k) (by omega)).1]; exact hl
  refine zk_st [.ref (ad (k + 1)), .ref (ad (k))] (by rw [(ha5 (k) (by omega)).1]) ?_
  have k5_0 : G (k) = .inr (3, [.null, .int (iZ (0))]) := by rw [(ha5 (k) (by omega)).2, hk0]
  have hlo : ∀ i : Nat, i < k → ad i = ad0 i ∧ G i = G0 i := fun i hi => ⟨((ha5 (i) (by omega))).1.trans (hlo i hi).1, ((ha5 (i) (by omega))).2.trans (hlo i hi).2⟩
  have hak : ad k = ad0 k := ((ha5 (k) (by omega))).1.trans hak
  have hP : va_P D vwCl (pw (k + 2) ad G) H := by rw [show k + 2 = k + 1 + 1 by omega]; exact hP
  have hD : va_D A (pw (k + 2) ad G) := by rw [show k + 2 = k + 1 + 1 by omega]; exact hD
  refine lv_dup hx hb dX3_init_8 rfl ?_
  refine lv_iload_n hx hb dX3_init_9 rfl (lv_at hl 1 rfl) ?_
  refine zc_Kv (As := [.int (iZ (((r : Nat) : Int)))]) (rest := [.ref (ad (k + 1)), .ref (ad (k))]) ⟨hx, hb, hml, hown, hts⟩ (k_whole l D cI cJ cE cF cR (_) (k + 1) ad G (by omega) (r) (by omega) (by omega) (hn5)) (cwI 1 hts gX3_init_X9_init rfl rfl rfl q_initialized_RX9 q_methodLink_RX3_9_yX9_init q_instanceMethod_yX9_init rfl (by decide +kernel) ⟨Nat.le_of_ble_eq_true rfl, Nat.le_of_ble_eq_true rfl⟩) hN hAO hK hP hD hS hA rfl hl.1 (Nat.le_of_ble_eq_true rfl) dX3_init_10 ⟨by show _ ≤ 2; omega, by show _ ≤ r + 2; omega⟩ (fun ad G H locs ha10 hao10 pw10 hP hD hS => ?_)
  have hl : lv_has ls 2 [(0, .ref (ad (k))), (1, .int (iZ (((r : Nat) : Int))))] := by rw [(ha10 (k) (by omega)).1]; exact hl
  refine zk_st [.ref (ad (k + 1)), .ref (ad (k))] (by rw [(ha10 (k) (by omega)).1, hao10]) ?_
  have k10_0 : G (k) = .inr (3, [.null, .int (iZ (0))]) := by rw [(ha10 (k) (by omega)).2, k5_0]
  have hlo : ∀ i : Nat, i < k → ad i = ad0 i ∧ G i = G0 i := fun i hi => ⟨((ha10 (i) (by omega))).1.trans (hlo i hi).1, ((ha10 (i) (by omega))).2.trans (hlo i hi).2⟩
  have hak : ad k = ad0 k := ((ha10 (k) (by omega))).1.trans hak
  have hP : va_P D vwCl (pw (k + 3) ad G) H := by rw [show k + 3 = k + 1 + 2 by omega]; exact hP
  have hD : va_D A (pw (k + 3) ad G) := by rw [show k + 3 = k + 1 + 2 by omega]; exact hD
  have pw10 : pHas cI ad G (k + 1) (r) := pw10
  refine va_putF (D := D) (ci := 3) (v := .ref (ad (k + 1))) (ty := tyX3 0) (C := RX3) (T := TX3) (N := 2) hx hb hts hin3 tyX3 tyX3_ok nmX3 hown hK hP hD hS (k) (pw_at (by omega) (k10_0)) rfl 0 (by decide) q_f_RX3_12_Entry_amount_LWhole (fun _ h9 => h9) rfl hnm rfl (tyX3_ok 0 (by decide)) rfl rfl (Nat.le_of_ble_eq_true rfl) dX3_init_13 (fun H locs hP hD hS => ?_)
  rw [pw_set] at hP hD
  obtain ⟨G_13, hg13⟩ : ∃ g : Nat → va_E, g = zu G (k) (.inr (3, [.ref (ad (k + 1)), .int (iZ (0))])) := ⟨_, rfl⟩
  have hP : va_P D vwCl (pw (k + 3) ad G_13) H := by rw [hg13]; exact hP
  have hD : va_D A (pw (k + 3) ad G_13) := by rw [hg13]; exact hD
  have ho13 : ∀ i8 : Nat, i8 ≠ k → G_13 i8 = G i8 := fun i8 hk => by rw [hg13]; exact zu_n _ _ hk
  have he13 : G_13 (k) = .inr (3, [.ref (ad (k + 1)), .int (iZ (0))]) := by rw [hg13]; exact zu_s _ _ _
  have hlo : ∀ i : Nat, i < k → ad i = ad0 i ∧ G_13 i = G0 i := fun i hi => ⟨((show ad (i) = ad (i) ∧ G_13 (i) = G (i) from ⟨rfl, ho13 (i) (by omega)⟩)).1.trans (hlo i hi).1, ((show ad (i) = ad (i) ∧ G_13 (i) = G (i) from ⟨rfl, ho13 (i) (by omega)⟩)).2.trans (hlo i hi).2⟩
  have pw10 : pHas cI ad G_13 (k + 1) (r) := pw10.mv (fun i h1 h2 => ⟨rfl, ho13 i (by omega)⟩)
  refine lv_aload_n hx hb dX3_init_16 rfl (lv_at hl 0 rfl) ?_
  refine lv_iconst (v := iZ 0) hx hb dX3_init_17 rfl ?_
  refine va_put (D := D) (ci := 3) (v := .int (iZ (0))) (ty := tyX3 1) (C := RX3) (T := TX3) (N := 2) hx hb hts hin3 tyX3 tyX3_ok nmX3 hown hK hP hD hS (k) (pw_at (by omega) (he13)) rfl 1 (by decide) q_f_RX3_18_Entry_sign_I (fun _ h9 => h9) rfl (tyX3_ok 1 (by decide)) rfl rfl (Nat.le_of_ble_eq_true rfl) dX3_init_18 (fun H locs hP hD hS => ?_)
  rw [pw_set] at hP hD
  obtain ⟨G_18, hg18⟩ : ∃ g : Nat → va_E, g = zu G_13 (k) (.inr (3, [.ref (ad (k + 1)), .int (iZ (0))])) := ⟨_, rfl⟩
  have hP : va_P D vwCl (pw (k + 3) ad G_18) H := by rw [hg18]; exact hP
  have hD : va_D A (pw (k + 3) ad G_18) := by rw [hg18]; exact hD
  have ho18 : ∀ i8 : Nat, i8 ≠ k → G_18 i8 = G_13 i8 := fun i8 hk => by rw [hg18]; exact zu_n _ _ hk
  have he18 : G_18 (k) = .inr (3, [.ref (ad (k + 1)), .int (iZ (0))]) := by rw [hg18]; exact zu_s _ _ _
  have hlo : ∀ i : Nat, i < k → ad i = ad0 i ∧ G_18 i = G0 i := fun i hi => ⟨((show ad (i) = ad (i) ∧ G_18 (i) = G_13 (i) from ⟨rfl, ho18 (i) (by omega)⟩)).1.trans (hlo i hi).1, ((show ad (i) = ad (i) ∧ G_18 (i) = G_13 (i) from ⟨rfl, ho18 (i) (by omega)⟩)).2.trans (hlo i hi).2⟩
  have pw10 : pHas cI ad G_18 (k + 1) (r) := pw10.mv (fun i h1 h2 => ⟨rfl, ho18 i (by omega)⟩)
  exact zr_vret hQ hx hb hr hlk dX3_init_21 hK hP hD hS (by omega) (by omega) (⟨ad, G_18, rfl, hlo, hak, ⟨⟨0, he18⟩, pw10⟩⟩)

set_option maxHeartbeats 4000000 in
set_option maxRecDepth 100000 in
/-- Fraction: two rooms of r words -/
theorem k_frac (l : Launch) (D : va_G) (cI cJ cE cF cR : ClassId) (n k : Nat) (ad0 : Nat → Nat) (G0 : Nat → va_E) (hn : n = k + 1) (r : Nat) (hr1 : 1 ≤ r) (hr9 : r ≤ 1000) (hG0 : G0 k = .inr (6, [.null, .null, .int (iZ (0))])) : Kv l D (zty cI cJ cE cF cR) yX6_init wsX6_init ({ frames := 2, cells := 4, slots := r + r + 4, locals := 44 } : Room) (4) (r + r + 4) [.ref (ad0 (k)), .int (iZ (((r : Nat) : Int))), .int (iZ (((r : Nat) : Int)))] (pw n ad0 G0) (kPo k 5 ad0 G0 (fun ad G => pFh cI ad G k r)) := by
  unfold Kv
  refine zsK (Qc := zQv D _ _) (cc := cX6_init) (maxL := 3) (ret := none) (by decide) rfl (Nat.le_of_ble_eq_true rfl) ?_
  intro zp ze s zm below meth zc ls A args Q hQ hx hb hr hts hown hlk hml hnm hN hAO hA hK hP hD hS hl
  have q_methodLink_RX6_1_objectInit := hts (.methodLink RX6 1 objectInit) (by decide +kernel)
  have q_instanceMethod_objectInit := hts (.instanceMethod objectInit) (by decide +kernel)
  have q_code_objectInit_0xb1_1_none := hts (.code objectInit ⟨#[0xb1]⟩ 1 none) (by decide +kernel)
  have hin9 : ∀ w ∈ wsX90, w ∈ wsX6_init := by decide +kernel
  have q_classLink_RX6_7_RX9 := hts (.classLink RX6 7 RX9) (by decide +kernel)
  have q_instantiable_RX9_2 := hts (.instantiable RX9 2) (by decide +kernel)
  have q_initialized_RX9 := hts (.initialized RX9) (by decide +kernel)
  have q_methodLink_RX6_9_yX9_init := hts (.methodLink RX6 9 yX9_init) (by decide +kernel)
  have q_instanceMethod_yX9_init := hts (.instanceMethod yX9_init) (by decide +kernel)
  have q_f_RX6_12_Fraction_num_LWhole := hts (.fieldLink RX6 12 "LimbSolver$Fraction" "num" "LLimbSolver$Whole;") (by decide +kernel)
  have hin6 : ∀ w ∈ wsX60, w ∈ wsX6_init := by decide +kernel
  have q_f_RX6_18_Fraction_den_LWhole := hts (.fieldLink RX6 18 "LimbSolver$Fraction" "den" "LLimbSolver$Whole;") (by decide +kernel)
  have hl : lv_has ls 3 [(0, .ref (ad0 (k))), (1, .int (iZ (((r : Nat) : Int)))), (2, .int (iZ (((r : Nat) : Int))))] := hl
  obtain ⟨ad, G, had0, hGG0⟩ : ∃ (ad : Nat → Nat) (G : Nat → va_E), ad = ad0 ∧ G = G0 := ⟨ad0, G0, rfl, rfl⟩
  have hP : va_P D vwCl (pw (k + 1) ad G) s.heap := by rw [had0, hGG0, ← hn]; exact hP
  have hD : va_D A (pw (k + 1) ad G) := by rw [had0, hGG0, ← hn]; exact hD
  have hl : lv_has ls 3 [(0, .ref (ad (k))), (1, .int (iZ (((r : Nat) : Int)))), (2, .int (iZ (((r : Nat) : Int))))] := by rw [had0]; exact hl
  have hlo : ∀ i : Nat, i < k → ad i = ad0 i ∧ G i = G0 i := fun i hi => by rw [had0, hGG0]; exact ⟨rfl, rfl⟩
  have hak : ad k = ad0 k := by rw [had0]
  have hk0 : G (k) = .inr (6, [.null, .null, .int (iZ (0))]) := by rw [hGG0]; exact hG0
  refine lv_aload_n hx hb dX6_init_0 rfl (lv_at hl 0 rfl) ?_
  refine zk_obj hx hb hown q_methodLink_RX6_1_objectInit q_instanceMethod_objectInit q_code_objectInit_0xb1_1_none (hl.1.trans hml.symm) dX6_init_1 (Nat.le_of_ble_eq_true rfl) (Nat.le_of_ble_eq_true rfl) ?_
  refine lv_aload_n hx hb dX6_init_4 rfl (lv_at hl 0 rfl) ?_
  refine zk_new (D := D) (C := RX9) (T := TX9) (N := 2) (ci := 9) hx hb hts hin9 tyX9 tyX9_ok hown q_classLink_RX6_7_RX9 q_instantiable_RX9_2 q_initialized_RX9 hK hP hD hS hA rfl [.null, .int (iZ (0))] (hfX9) (by show _ ≤ 4; omega) (by show _ ≤ r + r + 4; omega) dX6_init_5 (fun ad G H ha5 hn5 hP hD hS => ?_)
  have hl : lv_has ls 3 [(0, .ref (ad (k))), (1, .int (iZ (((r : Nat) : Int)))), (2, .int (iZ (((r : Nat) : Int))))] := by rw [(ha5 (k) (by omega)).1]; exact hl
  refine zk_st [.ref (ad (k + 1)), .ref (ad (k))] (by rw [(ha5 (k) (by omega)).1]) ?_
  have k5_0 : G (k) = .inr (6, [.null, .null, .int (iZ (0))]) := by rw [(ha5 (k) (by omega)).2, hk0]
  have hlo : ∀ i : Nat, i < k → ad i = ad0 i ∧ G i = G0 i := fun i hi => ⟨((ha5 (i) (by omega))).1.trans (hlo i hi).1, ((ha5 (i) (by omega))).2.trans (hlo i hi).2⟩
  have hak : ad k = ad0 k := ((ha5 (k) (by omega))).1.trans hak
  have hP : va_P D vwCl (pw (k + 2) ad G) H := by rw [show k + 2 = k + 1 + 1 by omega]; exact hP
  have hD : va_D A (pw (k + 2) ad G) := by rw [show k + 2 = k + 1 + 1 by omega]; exact hD
  refine lv_dup hx hb dX6_init_8 rfl ?_
  refine lv_iload_n hx hb dX6_init_9 rfl (lv_at hl 1 rfl) ?_
  refine zc_Kv (As := [.int (iZ (((r : Nat) : Int)))]) (rest := [.ref (ad (k + 1)), .ref (ad (k))]) ⟨hx, hb, hml, hown, hts⟩ (k_whole l D cI cJ cE cF cR (_) (k + 1) ad G (by omega) (r) (by omega) (by omega) (hn5)) (cwI 1 hts gX6_init_X9_init rfl rfl rfl q_initialized_RX9 q_methodLink_RX6_9_yX9_init q_instanceMethod_yX9_init rfl (by decide +kernel) ⟨Nat.le_of_ble_eq_true rfl, Nat.le_of_ble_eq_true rfl⟩) hN hAO hK hP hD hS hA rfl hl.1 (Nat.le_of_ble_eq_true rfl) dX6_init_10 ⟨by show _ ≤ 4; omega, by show _ ≤ r + r + 4; omega⟩ (fun ad G H locs ha10 hao10 pw10 hP hD hS => ?_)
  have hl : lv_has ls 3 [(0, .ref (ad (k))), (1, .int (iZ (((r : Nat) : Int)))), (2, .int (iZ (((r : Nat) : Int))))] := by rw [(ha10 (k) (by omega)).1]; exact hl
  refine zk_st [.ref (ad (k + 1)), .ref (ad (k))] (by rw [(ha10 (k) (by omega)).1, hao10]) ?_
  have k10_0 : G (k) = .inr (6, [.null, .null, .int (iZ (0))]) := by rw [(ha10 (k) (by omega)).2, k5_0]
  have hlo : ∀ i : Nat, i < k → ad i = ad0 i ∧ G i = G0 i := fun i hi => ⟨((ha10 (i) (by omega))).1.trans (hlo i hi).1, ((ha10 (i) (by omega))).2.trans (hlo i hi).2⟩
  have hak : ad k = ad0 k := ((ha10 (k) (by omega))).1.trans hak
  have hP : va_P D vwCl (pw (k + 3) ad G) H := by rw [show k + 3 = k + 1 + 2 by omega]; exact hP
  have hD : va_D A (pw (k + 3) ad G) := by rw [show k + 3 = k + 1 + 2 by omega]; exact hD
  have pw10 : pHas cI ad G (k + 1) (r) := pw10
  refine va_putF (D := D) (ci := 6) (v := .ref (ad (k + 1))) (ty := tyX6 0) (C := RX6) (T := TX6) (N := 3) hx hb hts hin6 tyX6 tyX6_ok nmX6 hown hK hP hD hS (k) (pw_at (by omega) (k10_0)) rfl 0 (by decide) q_f_RX6_12_Fraction_num_LWhole (fun _ h9 => h9) rfl hnm rfl (tyX6_ok 0 (by decide)) rfl rfl (Nat.le_of_ble_eq_true rfl) dX6_init_13 (fun H locs hP hD hS => ?_)
  rw [pw_set] at hP hD
  obtain ⟨G_13, hg13⟩ : ∃ g : Nat → va_E, g = zu G (k) (.inr (6, [.ref (ad (k + 1)), .null, .int (iZ (0))])) := ⟨_, rfl⟩
  have hP : va_P D vwCl (pw (k + 3) ad G_13) H := by rw [hg13]; exact hP
  have hD : va_D A (pw (k + 3) ad G_13) := by rw [hg13]; exact hD
  have ho13 : ∀ i8 : Nat, i8 ≠ k → G_13 i8 = G i8 := fun i8 hk => by rw [hg13]; exact zu_n _ _ hk
  have he13 : G_13 (k) = .inr (6, [.ref (ad (k + 1)), .null, .int (iZ (0))]) := by rw [hg13]; exact zu_s _ _ _
  have hlo : ∀ i : Nat, i < k → ad i = ad0 i ∧ G_13 i = G0 i := fun i hi => ⟨((show ad (i) = ad (i) ∧ G_13 (i) = G (i) from ⟨rfl, ho13 (i) (by omega)⟩)).1.trans (hlo i hi).1, ((show ad (i) = ad (i) ∧ G_13 (i) = G (i) from ⟨rfl, ho13 (i) (by omega)⟩)).2.trans (hlo i hi).2⟩
  have pw10 : pHas cI ad G_13 (k + 1) (r) := pw10.mv (fun i h1 h2 => ⟨rfl, ho13 i (by omega)⟩)
  refine lv_aload_n hx hb dX6_init_16 rfl (lv_at hl 0 rfl) ?_
  refine zk_new (D := D) (C := RX9) (T := TX9) (N := 2) (ci := 9) hx hb hts hin9 tyX9 tyX9_ok hown q_classLink_RX6_7_RX9 q_instantiable_RX9_2 q_initialized_RX9 hK hP hD hS hA rfl [.null, .int (iZ (0))] (hfX9) (by show _ ≤ 4; omega) (by show _ ≤ r + r + 4; omega) dX6_init_17 (fun ad G H ha17 hn17 hP hD hS => ?_)
  have hl : lv_has ls 3 [(0, .ref (ad (k))), (1, .int (iZ (((r : Nat) : Int)))), (2, .int (iZ (((r : Nat) : Int))))] := by rw [(ha17 (k) (by omega)).1]; exact hl
  refine zk_st [.ref (ad (k + 3)), .ref (ad (k))] (by rw [(ha17 (k) (by omega)).1]) ?_
  have k17_0 : G (k) = .inr (6, [.ref (ad (k + 1)), .null, .int (iZ (0))]) := by rw [(ha17 (k) (by omega)).2, he13, (ha17 (k + 1) (by omega)).1]
  have hlo : ∀ i : Nat, i < k → ad i = ad0 i ∧ G i = G0 i := fun i hi => ⟨((ha17 (i) (by omega))).1.trans (hlo i hi).1, ((ha17 (i) (by omega))).2.trans (hlo i hi).2⟩
  have hak : ad k = ad0 k := ((ha17 (k) (by omega))).1.trans hak
  have pw10 : pHas cI ad G (k + 1) (r) := pw10.mv (fun i h1 h2 => ha17 i (by omega))
  have hP : va_P D vwCl (pw (k + 4) ad G) H := by rw [show k + 4 = k + 3 + 1 by omega]; exact hP
  have hD : va_D A (pw (k + 4) ad G) := by rw [show k + 4 = k + 3 + 1 by omega]; exact hD
  refine lv_dup hx hb dX6_init_20 rfl ?_
  refine lv_iload_n hx hb dX6_init_21 rfl (lv_at hl 2 rfl) ?_
  refine zc_Kv (As := [.int (iZ (((r : Nat) : Int)))]) (rest := [.ref (ad (k + 3)), .ref (ad (k))]) ⟨hx, hb, hml, hown, hts⟩ (k_whole l D cI cJ cE cF cR (_) (k + 3) ad G (by omega) (r) (by omega) (by omega) (hn17)) (cwI 1 hts gX6_init_X9_init rfl rfl rfl q_initialized_RX9 q_methodLink_RX6_9_yX9_init q_instanceMethod_yX9_init rfl (by decide +kernel) ⟨Nat.le_of_ble_eq_true rfl, Nat.le_of_ble_eq_true rfl⟩) hN hAO hK hP hD hS hA rfl hl.1 (Nat.le_of_ble_eq_true rfl) dX6_init_22 ⟨by show _ ≤ 4; omega, by show _ ≤ r + r + 4; omega⟩ (fun ad G H locs ha22 hao22 pw22 hP hD hS => ?_)
  have hl : lv_has ls 3 [(0, .ref (ad (k))), (1, .int (iZ (((r : Nat) : Int)))), (2, .int (iZ (((r : Nat) : Int))))] := by rw [(ha22 (k) (by omega)).1]; exact hl
  refine zk_st [.ref (ad (k + 3)), .ref (ad (k))] (by rw [(ha22 (k) (by omega)).1, hao22]) ?_
  have k22_0 : G (k) = .inr (6, [.ref (ad (k + 1)), .null, .int (iZ (0))]) := by rw [(ha22 (k) (by omega)).2, k17_0, (ha22 (k + 1) (by omega)).1]
  have hlo : ∀ i : Nat, i < k → ad i = ad0 i ∧ G i = G0 i := fun i hi => ⟨((ha22 (i) (by omega))).1.trans (hlo i hi).1, ((ha22 (i) (by omega))).2.trans (hlo i hi).2⟩
  have hak : ad k = ad0 k := ((ha22 (k) (by omega))).1.trans hak
  have pw10 : pHas cI ad G (k + 1) (r) := pw10.mv (fun i h1 h2 => ha22 i (by omega))
  have hP : va_P D vwCl (pw (k + 5) ad G) H := by rw [show k + 5 = k + 3 + 2 by omega]; exact hP
  have hD : va_D A (pw (k + 5) ad G) := by rw [show k + 5 = k + 3 + 2 by omega]; exact hD
  have pw22 : pHas cI ad G (k + 3) (r) := pw22
  refine va_putF (D := D) (ci := 6) (v := .ref (ad (k + 3))) (ty := tyX6 1) (C := RX6) (T := TX6) (N := 3) hx hb hts hin6 tyX6 tyX6_ok nmX6 hown hK hP hD hS (k) (pw_at (by omega) (k22_0)) rfl 1 (by decide) q_f_RX6_18_Fraction_den_LWhole (fun _ h9 => h9) rfl hnm rfl (tyX6_ok 1 (by decide)) rfl rfl (Nat.le_of_ble_eq_true rfl) dX6_init_25 (fun H locs hP hD hS => ?_)
  rw [pw_set] at hP hD
  obtain ⟨G_25, hg25⟩ : ∃ g : Nat → va_E, g = zu G (k) (.inr (6, [.ref (ad (k + 1)), .ref (ad (k + 3)), .int (iZ (0))])) := ⟨_, rfl⟩
  have hP : va_P D vwCl (pw (k + 5) ad G_25) H := by rw [hg25]; exact hP
  have hD : va_D A (pw (k + 5) ad G_25) := by rw [hg25]; exact hD
  have ho25 : ∀ i8 : Nat, i8 ≠ k → G_25 i8 = G i8 := fun i8 hk => by rw [hg25]; exact zu_n _ _ hk
  have he25 : G_25 (k) = .inr (6, [.ref (ad (k + 1)), .ref (ad (k + 3)), .int (iZ (0))]) := by rw [hg25]; exact zu_s _ _ _
  have hlo : ∀ i : Nat, i < k → ad i = ad0 i ∧ G_25 i = G0 i := fun i hi => ⟨((show ad (i) = ad (i) ∧ G_25 (i) = G (i) from ⟨rfl, ho25 (i) (by omega)⟩)).1.trans (hlo i hi).1, ((show ad (i) = ad (i) ∧ G_25 (i) = G (i) from ⟨rfl, ho25 (i) (by omega)⟩)).2.trans (hlo i hi).2⟩
  have pw10 : pHas cI ad G_25 (k + 1) (r) := pw10.mv (fun i h1 h2 => ⟨rfl, ho25 i (by omega)⟩)
  have pw22 : pHas cI ad G_25 (k + 3) (r) := pw22.mv (fun i h1 h2 => ⟨rfl, ho25 i (by omega)⟩)
  refine lv_aload_n hx hb dX6_init_28 rfl (lv_at hl 0 rfl) ?_
  have hfh : pFh cI ad G_25 (k) (r) := ⟨⟨0, he25⟩, pw10, pw22⟩
  refine zc_Vv (As := []) (rest := []) (wr := []) ⟨hx, hb, hml, hown, hts⟩ (p_fclear l D cI cJ cE cF cR _ ad G_25 (k) (r) hfh (by omega) (by omega) (by omega)) (cwV 0 hts gX6_init_X6_clear rfl rfl rfl (by decide +kernel) ⟨Nat.le_of_ble_eq_true rfl, Nat.le_of_ble_eq_true rfl⟩) hN hK hP hD hS hA (List.range (k + 5)) [] (pw_all _ _ _) rfl (pw_nd _) rfl (fun _ h9 => nomatch h9) (q0 := k) (ci := 6) rfl rfl (pw_at (by omega) (he25)) rfl hl.1 (Nat.le_of_ble_eq_true rfl) dX6_init_29 ⟨by show _ ≤ 4; omega, by show _ ≤ r + r + 4; omega⟩ (fun w1 H locs hp hP hD hS => ?_)
  obtain ⟨G9, rfl, hfr, ho9⟩ := hp
  have hlo : ∀ i : Nat, i < k → ad i = ad0 i ∧ G9 i = G0 i := fun i hi => ⟨(hlo i hi).1, (ho9 i (by omega) (by omega) (by omega) (by omega) (by omega)).trans (hlo i hi).2⟩
  have hP : va_P D vwCl (pw (k + 5) ad G9) H := hP
  have hD : va_D A (pw (k + 5) ad G9) := hD
  exact zr_vret hQ hx hb hr hlk dX6_init_32 hK hP hD hS (by omega) (by omega) (⟨ad, G9, rfl, hlo, hak, hfr.has⟩)

set_option maxHeartbeats 4000000 in
set_option maxRecDepth 100000 in
/-- Division -/
theorem k_div (l : Launch) (D : va_G) (cI cJ cE cF cR : ClassId) (n k : Nat) (ad0 : Nat → Nat) (G0 : Nat → va_E) (hn : n = k + 1) (hG0 : G0 k = .inr (1, [.null, .null])) : Kv l D (zty cI cJ cE cF cR) yX1_init wsX1_init ({ frames := 1, cells := 2, slots := 194, locals := 12 } : Room) (2) (194) [.ref (ad0 (k))] (pw n ad0 G0) (kPo k 3 ad0 G0 (fun ad G => kDv cI ad G k)) := by
  unfold Kv
  refine zsK (Qc := zQv D _ _) (cc := cX1_init) (maxL := 1) (ret := none) (by decide) rfl (Nat.le_of_ble_eq_true rfl) ?_
  intro zp ze s zm below meth zc ls A args Q hQ hx hb hr hts hown hlk hml hnm hN hAO hA hK hP hD hS hl
  have q_methodLink_RX1_3_objectInit := hts (.methodLink RX1 3 objectInit) (by decide +kernel)
  have q_instanceMethod_objectInit := hts (.instanceMethod objectInit) (by decide +kernel)
  have q_code_objectInit_0xb1_1_none := hts (.code objectInit ⟨#[0xb1]⟩ 1 none) (by decide +kernel)
  have q_arrayClass_int := hts (.arrayClass .int) (by decide +kernel)
  have q_f_RX1_9_Division_dividend_I := hts (.fieldLink RX1 9 "LimbSolver$Division" "dividend" "[I") (by decide +kernel)
  have hin1 : ∀ w ∈ wsX10, w ∈ wsX1_init := by decide +kernel
  have q_f_RX1_15_Division_divisor_I := hts (.fieldLink RX1 15 "LimbSolver$Division" "divisor" "[I") (by decide +kernel)
  have hl : lv_has ls 1 [(0, .ref (ad0 (k)))] := hl
  obtain ⟨ad, G, had0, hGG0⟩ : ∃ (ad : Nat → Nat) (G : Nat → va_E), ad = ad0 ∧ G = G0 := ⟨ad0, G0, rfl, rfl⟩
  have hP : va_P D vwCl (pw (k + 1) ad G) s.heap := by rw [had0, hGG0, ← hn]; exact hP
  have hD : va_D A (pw (k + 1) ad G) := by rw [had0, hGG0, ← hn]; exact hD
  have hl : lv_has ls 1 [(0, .ref (ad (k)))] := by rw [had0]; exact hl
  have hlo : ∀ i : Nat, i < k → ad i = ad0 i ∧ G i = G0 i := fun i hi => by rw [had0, hGG0]; exact ⟨rfl, rfl⟩
  have hak : ad k = ad0 k := by rw [had0]
  have hk0 : G (k) = .inr (1, [.null, .null]) := by rw [hGG0]; exact hG0
  refine lv_aload_n hx hb dX1_init_0 rfl (lv_at hl 0 rfl) ?_
  refine zk_obj hx hb hown q_methodLink_RX1_3_objectInit q_instanceMethod_objectInit q_code_objectInit_0xb1_1_none (hl.1.trans hml.symm) dX1_init_1 (Nat.le_of_ble_eq_true rfl) (Nat.le_of_ble_eq_true rfl) ?_
  refine lv_aload_n hx hb dX1_init_4 rfl (lv_at hl 0 rfl) ?_
  refine lv_bipush (v := iZ 97) hx hb dX1_init_5 (by decide) ?_
  refine zk_newI hx hb q_arrayClass_int hK 0 rfl hP hD hS hA (97) (rfl) (by decide) (by show _ ≤ 2; omega) (by show _ ≤ 194; omega) dX1_init_7 (fun ad G H ha7 hn7 hP hD hS => ?_)
  have hl : lv_has ls 1 [(0, .ref (ad (k)))] := by rw [(ha7 (k) (by omega)).1]; exact hl
  refine zk_st [.ref (ad (k + 1)), .ref (ad (k))] (by rw [(ha7 (k) (by omega)).1]) ?_
  have k7_0 : G (k) = .inr (1, [.null, .null]) := by rw [(ha7 (k) (by omega)).2, hk0]
  have hlo : ∀ i : Nat, i < k → ad i = ad0 i ∧ G i = G0 i := fun i hi => ⟨((ha7 (i) (by omega))).1.trans (hlo i hi).1, ((ha7 (i) (by omega))).2.trans (hlo i hi).2⟩
  have hak : ad k = ad0 k := ((ha7 (k) (by omega))).1.trans hak
  have hP : va_P D vwCl (pw (k + 2) ad G) H := by rw [show k + 2 = k + 1 + 1 by omega]; exact hP
  have hD : va_D A (pw (k + 2) ad G) := by rw [show k + 2 = k + 1 + 1 by omega]; exact hD
  refine va_putF (D := D) (ci := 1) (v := .ref (ad (k + 1))) (ty := tyX1 0) (C := RX1) (T := TX1) (N := 2) hx hb hts hin1 tyX1 tyX1_ok nmX1 hown hK hP hD hS (k) (pw_at (by omega) (k7_0)) rfl 0 (by decide) q_f_RX1_9_Division_dividend_I (fun _ h9 => h9) rfl hnm rfl (tyX1_ok 0 (by decide)) rfl rfl (Nat.le_of_ble_eq_true rfl) dX1_init_9 (fun H locs hP hD hS => ?_)
  rw [pw_set] at hP hD
  obtain ⟨G_9, hg9⟩ : ∃ g : Nat → va_E, g = zu G (k) (.inr (1, [.ref (ad (k + 1)), .null])) := ⟨_, rfl⟩
  have hP : va_P D vwCl (pw (k + 2) ad G_9) H := by rw [hg9]; exact hP
  have hD : va_D A (pw (k + 2) ad G_9) := by rw [hg9]; exact hD
  have ho9 : ∀ i8 : Nat, i8 ≠ k → G_9 i8 = G i8 := fun i8 hk => by rw [hg9]; exact zu_n _ _ hk
  have he9 : G_9 (k) = .inr (1, [.ref (ad (k + 1)), .null]) := by rw [hg9]; exact zu_s _ _ _
  have k9_1 : G_9 (k + 1) = aI cI (97) (fun _ => 0) := (ho9 (k + 1) (by omega)).trans (hn7)
  have hlo : ∀ i : Nat, i < k → ad i = ad0 i ∧ G_9 i = G0 i := fun i hi => ⟨((show ad (i) = ad (i) ∧ G_9 (i) = G (i) from ⟨rfl, ho9 (i) (by omega)⟩)).1.trans (hlo i hi).1, ((show ad (i) = ad (i) ∧ G_9 (i) = G (i) from ⟨rfl, ho9 (i) (by omega)⟩)).2.trans (hlo i hi).2⟩
  refine lv_aload_n hx hb dX1_init_12 rfl (lv_at hl 0 rfl) ?_
  refine lv_bipush (v := iZ 97) hx hb dX1_init_13 (by decide) ?_
  refine zk_newI hx hb q_arrayClass_int hK 0 rfl hP hD hS hA (97) (rfl) (by decide) (by show _ ≤ 2; omega) (by show _ ≤ 194; omega) dX1_init_15 (fun ad G H ha15 hn15 hP hD hS => ?_)
  have hl : lv_has ls 1 [(0, .ref (ad (k)))] := by rw [(ha15 (k) (by omega)).1]; exact hl
  refine zk_st [.ref (ad (k + 2)), .ref (ad (k))] (by rw [(ha15 (k) (by omega)).1]) ?_
  have k15_0 : G (k + 1) = aI cI (97) (fun _ => 0) := by rw [(ha15 (k + 1) (by omega)).2, k9_1]
  have k15_1 : G (k) = .inr (1, [.ref (ad (k + 1)), .null]) := by rw [(ha15 (k) (by omega)).2, he9, (ha15 (k + 1) (by omega)).1]
  have hlo : ∀ i : Nat, i < k → ad i = ad0 i ∧ G i = G0 i := fun i hi => ⟨((ha15 (i) (by omega))).1.trans (hlo i hi).1, ((ha15 (i) (by omega))).2.trans (hlo i hi).2⟩
  have hak : ad k = ad0 k := ((ha15 (k) (by omega))).1.trans hak
  have hP : va_P D vwCl (pw (k + 3) ad G) H := by rw [show k + 3 = k + 2 + 1 by omega]; exact hP
  have hD : va_D A (pw (k + 3) ad G) := by rw [show k + 3 = k + 2 + 1 by omega]; exact hD
  refine va_putF (D := D) (ci := 1) (v := .ref (ad (k + 2))) (ty := tyX1 1) (C := RX1) (T := TX1) (N := 2) hx hb hts hin1 tyX1 tyX1_ok nmX1 hown hK hP hD hS (k) (pw_at (by omega) (k15_1)) rfl 1 (by decide) q_f_RX1_15_Division_divisor_I (fun _ h9 => h9) rfl hnm rfl (tyX1_ok 1 (by decide)) rfl rfl (Nat.le_of_ble_eq_true rfl) dX1_init_17 (fun H locs hP hD hS => ?_)
  rw [pw_set] at hP hD
  obtain ⟨G_17, hg17⟩ : ∃ g : Nat → va_E, g = zu G (k) (.inr (1, [.ref (ad (k + 1)), .ref (ad (k + 2))])) := ⟨_, rfl⟩
  have hP : va_P D vwCl (pw (k + 3) ad G_17) H := by rw [hg17]; exact hP
  have hD : va_D A (pw (k + 3) ad G_17) := by rw [hg17]; exact hD
  have ho17 : ∀ i8 : Nat, i8 ≠ k → G_17 i8 = G i8 := fun i8 hk => by rw [hg17]; exact zu_n _ _ hk
  have he17 : G_17 (k) = .inr (1, [.ref (ad (k + 1)), .ref (ad (k + 2))]) := by rw [hg17]; exact zu_s _ _ _
  have k17_0 : G_17 (k + 1) = aI cI (97) (fun _ => 0) := (ho17 (k + 1) (by omega)).trans (k15_0)
  have k17_2 : G_17 (k + 2) = aI cI (97) (fun _ => 0) := (ho17 (k + 2) (by omega)).trans (hn15)
  have hlo : ∀ i : Nat, i < k → ad i = ad0 i ∧ G_17 i = G0 i := fun i hi => ⟨((show ad (i) = ad (i) ∧ G_17 (i) = G (i) from ⟨rfl, ho17 (i) (by omega)⟩)).1.trans (hlo i hi).1, ((show ad (i) = ad (i) ∧ G_17 (i) = G (i) from ⟨rfl, ho17 (i) (by omega)⟩)).2.trans (hlo i hi).2⟩
  exact zr_vret hQ hx hb hr hlk dX1_init_20 hK hP hD hS (by omega) (by omega) (⟨ad, G_17, rfl, hlo, hak, ⟨he17, ⟨_, k17_0⟩, _, k17_2⟩⟩)

set_option maxHeartbeats 4000000 in
set_option maxRecDepth 100000 in
/-- Euclid -/
theorem k_eu (l : Launch) (D : va_G) (cI cJ cE cF cR : ClassId) (n k : Nat) (ad0 : Nat → Nat) (G0 : Nat → va_E) (hn : n = k + 1) (d : Nat) (hd9 : d < k) (hG0 : G0 k = .inr (5, [.null, .null, .null, .null, .null, .long (lZ (0)), .long (lZ (0)), .long (lZ (0)), .long (lZ (0))])) : Kv l D (zty cI cJ cE cF cR) yX5_init wsX5_init ({ frames := 2, cells := 8, slots := 392, locals := 33 } : Room) (8) (392) [.ref (ad0 (k)), .ref (ad0 (d))] (pw n ad0 G0) (kPo k 9 ad0 G0 (fun ad G => kEu cI ad G d k)) := by
  unfold Kv
  refine zsK (Qc := zQv D _ _) (cc := cX5_init) (maxL := 2) (ret := none) (by decide) rfl (Nat.le_of_ble_eq_true rfl) ?_
  intro zp ze s zm below meth zc ls A args Q hQ hx hb hr hts hown hlk hml hnm hN hAO hA hK hP hD hS hl
  have q_methodLink_RX5_3_objectInit := hts (.methodLink RX5 3 objectInit) (by decide +kernel)
  have q_instanceMethod_objectInit := hts (.instanceMethod objectInit) (by decide +kernel)
  have q_code_objectInit_0xb1_1_none := hts (.code objectInit ⟨#[0xb1]⟩ 1 none) (by decide +kernel)
  have q_f_RX5_9_Euclid_division_LDivision := hts (.fieldLink RX5 9 "LimbSolver$Euclid" "division" "LLimbSolver$Division;") (by decide +kernel)
  have hin5 : ∀ w ∈ wsX50, w ∈ wsX5_init := by decide +kernel
  have hin9 : ∀ w ∈ wsX90, w ∈ wsX5_init := by decide +kernel
  have q_classLink_RX5_15_RX9 := hts (.classLink RX5 15 RX9) (by decide +kernel)
  have q_instantiable_RX9_2 := hts (.instantiable RX9 2) (by decide +kernel)
  have q_initialized_RX9 := hts (.initialized RX9) (by decide +kernel)
  have q_methodLink_RX5_17_yX9_init := hts (.methodLink RX5 17 yX9_init) (by decide +kernel)
  have q_instanceMethod_yX9_init := hts (.instanceMethod yX9_init) (by decide +kernel)
  have q_f_RX5_20_Euclid_first_LWhole := hts (.fieldLink RX5 20 "LimbSolver$Euclid" "first" "LLimbSolver$Whole;") (by decide +kernel)
  have q_f_RX5_24_Euclid_second_LWhole := hts (.fieldLink RX5 24 "LimbSolver$Euclid" "second" "LLimbSolver$Whole;") (by decide +kernel)
  have q_f_RX5_27_Euclid_third_LWhole := hts (.fieldLink RX5 27 "LimbSolver$Euclid" "third" "LLimbSolver$Whole;") (by decide +kernel)
  have q_f_RX5_30_Euclid_unused_LWhole := hts (.fieldLink RX5 30 "LimbSolver$Euclid" "unused" "LLimbSolver$Whole;") (by decide +kernel)
  have q_f_RX5_33_Euclid_uu_J := hts (.fieldLink RX5 33 "LimbSolver$Euclid" "uu" "J") (by decide +kernel)
  have q_f_RX5_37_Euclid_uv_J := hts (.fieldLink RX5 37 "LimbSolver$Euclid" "uv" "J") (by decide +kernel)
  have q_f_RX5_40_Euclid_vu_J := hts (.fieldLink RX5 40 "LimbSolver$Euclid" "vu" "J") (by decide +kernel)
  have q_f_RX5_43_Euclid_vv_J := hts (.fieldLink RX5 43 "LimbSolver$Euclid" "vv" "J") (by decide +kernel)
  have hl : lv_has ls 2 [(0, .ref (ad0 (k))), (1, .ref (ad0 (d)))] := hl
  obtain ⟨ad, G, had0, hGG0⟩ : ∃ (ad : Nat → Nat) (G : Nat → va_E), ad = ad0 ∧ G = G0 := ⟨ad0, G0, rfl, rfl⟩
  have hP : va_P D vwCl (pw (k + 1) ad G) s.heap := by rw [had0, hGG0, ← hn]; exact hP
  have hD : va_D A (pw (k + 1) ad G) := by rw [had0, hGG0, ← hn]; exact hD
  have hl : lv_has ls 2 [(0, .ref (ad (k))), (1, .ref (ad (d)))] := by rw [had0]; exact hl
  have hlo : ∀ i : Nat, i < k → ad i = ad0 i ∧ G i = G0 i := fun i hi => by rw [had0, hGG0]; exact ⟨rfl, rfl⟩
  have hak : ad k = ad0 k := by rw [had0]
  have hk0 : G (k) = .inr (5, [.null, .null, .null, .null, .null, .long (lZ (0)), .long (lZ (0)), .long (lZ (0)), .long (lZ (0))]) := by rw [hGG0]; exact hG0
  refine lv_aload_n hx hb dX5_init_0 rfl (lv_at hl 0 rfl) ?_
  refine zk_obj hx hb hown q_methodLink_RX5_3_objectInit q_instanceMethod_objectInit q_code_objectInit_0xb1_1_none (hl.1.trans hml.symm) dX5_init_1 (Nat.le_of_ble_eq_true rfl) (Nat.le_of_ble_eq_true rfl) ?_
  refine lv_aload_n hx hb dX5_init_4 rfl (lv_at hl 0 rfl) ?_
  refine lv_aload_n hx hb dX5_init_5 rfl (lv_at hl 1 rfl) ?_
  refine va_putF (D := D) (ci := 5) (v := .ref (ad (d))) (ty := tyX5 0) (C := RX5) (T := TX5) (N := 9) hx hb hts hin5 tyX5 tyX5_ok nmX5 hown hK hP hD hS (k) (pw_at (by omega) (hk0)) rfl 0 (by decide) q_f_RX5_9_Euclid_division_LDivision (fun _ h9 => h9) rfl hnm rfl (tyX5_ok 0 (by decide)) rfl rfl (Nat.le_of_ble_eq_true rfl) dX5_init_6 (fun H locs hP hD hS => ?_)
  rw [pw_set] at hP hD
  obtain ⟨G_6, hg6⟩ : ∃ g : Nat → va_E, g = zu G (k) (.inr (5, [.ref (ad (d)), .null, .null, .null, .null, .long (lZ (0)), .long (lZ (0)), .long (lZ (0)), .long (lZ (0))])) := ⟨_, rfl⟩
  have hP : va_P D vwCl (pw (k + 1) ad G_6) H := by rw [hg6]; exact hP
  have hD : va_D A (pw (k + 1) ad G_6) := by rw [hg6]; exact hD
  have ho6 : ∀ i8 : Nat, i8 ≠ k → G_6 i8 = G i8 := fun i8 hk => by rw [hg6]; exact zu_n _ _ hk
  have he6 : G_6 (k) = .inr (5, [.ref (ad (d)), .null, .null, .null, .null, .long (lZ (0)), .long (lZ (0)), .long (lZ (0)), .long (lZ (0))]) := by rw [hg6]; exact zu_s _ _ _
  have hlo : ∀ i : Nat, i < k → ad i = ad0 i ∧ G_6 i = G0 i := fun i hi => ⟨((show ad (i) = ad (i) ∧ G_6 (i) = G (i) from ⟨rfl, ho6 (i) (by omega)⟩)).1.trans (hlo i hi).1, ((show ad (i) = ad (i) ∧ G_6 (i) = G (i) from ⟨rfl, ho6 (i) (by omega)⟩)).2.trans (hlo i hi).2⟩
  refine lv_aload_n hx hb dX5_init_9 rfl (lv_at hl 0 rfl) ?_
  refine zk_new (D := D) (C := RX9) (T := TX9) (N := 2) (ci := 9) hx hb hts hin9 tyX9 tyX9_ok hown q_classLink_RX5_15_RX9 q_instantiable_RX9_2 q_initialized_RX9 hK hP hD hS hA rfl [.null, .int (iZ (0))] (hfX9) (by show _ ≤ 8; omega) (by show _ ≤ 392; omega) dX5_init_10 (fun ad G H ha10 hn10 hP hD hS => ?_)
  have hl : lv_has ls 2 [(0, .ref (ad (k))), (1, .ref (ad (d)))] := by rw [(ha10 (d) (by omega)).1, (ha10 (k) (by omega)).1]; exact hl
  refine zk_st [.ref (ad (k + 1)), .ref (ad (k))] (by rw [(ha10 (k) (by omega)).1]) ?_
  have k10_0 : G (k) = .inr (5, [.ref (ad (d)), .null, .null, .null, .null, .long (lZ (0)), .long (lZ (0)), .long (lZ (0)), .long (lZ (0))]) := by rw [(ha10 (k) (by omega)).2, he6, (ha10 (d) (by omega)).1]
  have hlo : ∀ i : Nat, i < k → ad i = ad0 i ∧ G i = G0 i := fun i hi => ⟨((ha10 (i) (by omega))).1.trans (hlo i hi).1, ((ha10 (i) (by omega))).2.trans (hlo i hi).2⟩
  have hak : ad k = ad0 k := ((ha10 (k) (by omega))).1.trans hak
  have hP : va_P D vwCl (pw (k + 2) ad G) H := by rw [show k + 2 = k + 1 + 1 by omega]; exact hP
  have hD : va_D A (pw (k + 2) ad G) := by rw [show k + 2 = k + 1 + 1 by omega]; exact hD
  refine lv_dup hx hb dX5_init_13 rfl ?_
  refine lv_bipush (v := iZ 96) hx hb dX5_init_14 (by decide) ?_
  refine zc_Kv (As := [.int (iZ (96))]) (rest := [.ref (ad (k + 1)), .ref (ad (k))]) ⟨hx, hb, hml, hown, hts⟩ (k_whole l D cI cJ cE cF cR (_) (k + 1) ad G (by omega) (96) (by omega) (by omega) (hn10)) (cwI 1 hts gX5_init_X9_init rfl rfl rfl q_initialized_RX9 q_methodLink_RX5_17_yX9_init q_instanceMethod_yX9_init rfl (by decide +kernel) ⟨Nat.le_of_ble_eq_true rfl, Nat.le_of_ble_eq_true rfl⟩) hN hAO hK hP hD hS hA rfl hl.1 (Nat.le_of_ble_eq_true rfl) dX5_init_16 ⟨by show _ ≤ 8; omega, by show _ ≤ 392; omega⟩ (fun ad G H locs ha16 hao16 pw16 hP hD hS => ?_)
  have hl : lv_has ls 2 [(0, .ref (ad (k))), (1, .ref (ad (d)))] := by rw [(ha16 (d) (by omega)).1, (ha16 (k) (by omega)).1]; exact hl
  refine zk_st [.ref (ad (k + 1)), .ref (ad (k))] (by rw [(ha16 (k) (by omega)).1, hao16]) ?_
  have k16_0 : G (k) = .inr (5, [.ref (ad (d)), .null, .null, .null, .null, .long (lZ (0)), .long (lZ (0)), .long (lZ (0)), .long (lZ (0))]) := by rw [(ha16 (k) (by omega)).2, k10_0, (ha16 (d) (by omega)).1]
  have hlo : ∀ i : Nat, i < k → ad i = ad0 i ∧ G i = G0 i := fun i hi => ⟨((ha16 (i) (by omega))).1.trans (hlo i hi).1, ((ha16 (i) (by omega))).2.trans (hlo i hi).2⟩
  have hak : ad k = ad0 k := ((ha16 (k) (by omega))).1.trans hak
  have hP : va_P D vwCl (pw (k + 3) ad G) H := by rw [show k + 3 = k + 1 + 2 by omega]; exact hP
  have hD : va_D A (pw (k + 3) ad G) := by rw [show k + 3 = k + 1 + 2 by omega]; exact hD
  have pw16 : pHas cI ad G (k + 1) (96) := pw16
  refine va_putF (D := D) (ci := 5) (v := .ref (ad (k + 1))) (ty := tyX5 1) (C := RX5) (T := TX5) (N := 9) hx hb hts hin5 tyX5 tyX5_ok nmX5 hown hK hP hD hS (k) (pw_at (by omega) (k16_0)) rfl 1 (by decide) q_f_RX5_20_Euclid_first_LWhole (fun _ h9 => h9) rfl hnm rfl (tyX5_ok 1 (by decide)) rfl rfl (Nat.le_of_ble_eq_true rfl) dX5_init_19 (fun H locs hP hD hS => ?_)
  rw [pw_set] at hP hD
  obtain ⟨G_19, hg19⟩ : ∃ g : Nat → va_E, g = zu G (k) (.inr (5, [.ref (ad (d)), .ref (ad (k + 1)), .null, .null, .null, .long (lZ (0)), .long (lZ (0)), .long (lZ (0)), .long (lZ (0))])) := ⟨_, rfl⟩
  have hP : va_P D vwCl (pw (k + 3) ad G_19) H := by rw [hg19]; exact hP
  have hD : va_D A (pw (k + 3) ad G_19) := by rw [hg19]; exact hD
  have ho19 : ∀ i8 : Nat, i8 ≠ k → G_19 i8 = G i8 := fun i8 hk => by rw [hg19]; exact zu_n _ _ hk
  have he19 : G_19 (k) = .inr (5, [.ref (ad (d)), .ref (ad (k + 1)), .null, .null, .null, .long (lZ (0)), .long (lZ (0)), .long (lZ (0)), .long (lZ (0))]) := by rw [hg19]; exact zu_s _ _ _
  have hlo : ∀ i : Nat, i < k → ad i = ad0 i ∧ G_19 i = G0 i := fun i hi => ⟨((show ad (i) = ad (i) ∧ G_19 (i) = G (i) from ⟨rfl, ho19 (i) (by omega)⟩)).1.trans (hlo i hi).1, ((show ad (i) = ad (i) ∧ G_19 (i) = G (i) from ⟨rfl, ho19 (i) (by omega)⟩)).2.trans (hlo i hi).2⟩
  have pw16 : pHas cI ad G_19 (k + 1) (96) := pw16.mv (fun i h1 h2 => ⟨rfl, ho19 i (by omega)⟩)
  refine lv_aload_n hx hb dX5_init_22 rfl (lv_at hl 0 rfl) ?_
  refine zk_new (D := D) (C := RX9) (T := TX9) (N := 2) (ci := 9) hx hb hts hin9 tyX9 tyX9_ok hown q_classLink_RX5_15_RX9 q_instantiable_RX9_2 q_initialized_RX9 hK hP hD hS hA rfl [.null, .int (iZ (0))] (hfX9) (by show _ ≤ 8; omega) (by show _ ≤ 392; omega) dX5_init_23 (fun ad G H ha23 hn23 hP hD hS => ?_)
  have hl : lv_has ls 2 [(0, .ref (ad (k))), (1, .ref (ad (d)))] := by rw [(ha23 (d) (by omega)).1, (ha23 (k) (by omega)).1]; exact hl
  refine zk_st [.ref (ad (k + 3)), .ref (ad (k))] (by rw [(ha23 (k) (by omega)).1]) ?_
  have k23_0 : G (k) = .inr (5, [.ref (ad (d)), .ref (ad (k + 1)), .null, .null, .null, .long (lZ (0)), .long (lZ (0)), .long (lZ (0)), .long (lZ (0))]) := by rw [(ha23 (k) (by omega)).2, he19, (ha23 (d) (by omega)).1, (ha23 (k + 1) (by omega)).1]
  have hlo : ∀ i : Nat, i < k → ad i = ad0 i ∧ G i = G0 i := fun i hi => ⟨((ha23 (i) (by omega))).1.trans (hlo i hi).1, ((ha23 (i) (by omega))).2.trans (hlo i hi).2⟩
  have hak : ad k = ad0 k := ((ha23 (k) (by omega))).1.trans hak
  have pw16 : pHas cI ad G (k + 1) (96) := pw16.mv (fun i h1 h2 => ha23 i (by omega))
  have hP : va_P D vwCl (pw (k + 4) ad G) H := by rw [show k + 4 = k + 3 + 1 by omega]; exact hP
  have hD : va_D A (pw (k + 4) ad G) := by rw [show k + 4 = k + 3 + 1 by omega]; exact hD
  refine lv_dup hx hb dX5_init_26 rfl ?_
  refine lv_bipush (v := iZ 96) hx hb dX5_init_27 (by decide) ?_
  refine zc_Kv (As := [.int (iZ (96))]) (rest := [.ref (ad (k + 3)), .ref (ad (k))]) ⟨hx, hb, hml, hown, hts⟩ (k_whole l D cI cJ cE cF cR (_) (k + 3) ad G (by omega) (96) (by omega) (by omega) (hn23)) (cwI 1 hts gX5_init_X9_init rfl rfl rfl q_initialized_RX9 q_methodLink_RX5_17_yX9_init q_instanceMethod_yX9_init rfl (by decide +kernel) ⟨Nat.le_of_ble_eq_true rfl, Nat.le_of_ble_eq_true rfl⟩) hN hAO hK hP hD hS hA rfl hl.1 (Nat.le_of_ble_eq_true rfl) dX5_init_29 ⟨by show _ ≤ 8; omega, by show _ ≤ 392; omega⟩ (fun ad G H locs ha29 hao29 pw29 hP hD hS => ?_)
  have hl : lv_has ls 2 [(0, .ref (ad (k))), (1, .ref (ad (d)))] := by rw [(ha29 (d) (by omega)).1, (ha29 (k) (by omega)).1]; exact hl
  refine zk_st [.ref (ad (k + 3)), .ref (ad (k))] (by rw [(ha29 (k) (by omega)).1, hao29]) ?_
  have k29_0 : G (k) = .inr (5, [.ref (ad (d)), .ref (ad (k + 1)), .null, .null, .null, .long (lZ (0)), .long (lZ (0)), .long (lZ (0)), .long (lZ (0))]) := by rw [(ha29 (k) (by omega)).2, k23_0, (ha29 (d) (by omega)).1, (ha29 (k + 1) (by omega)).1]
  have hlo : ∀ i : Nat, i < k → ad i = ad0 i ∧ G i = G0 i := fun i hi => ⟨((ha29 (i) (by omega))).1.trans (hlo i hi).1, ((ha29 (i) (by omega))).2.trans (hlo i hi).2⟩
  have hak : ad k = ad0 k := ((ha29 (k) (by omega))).1.trans hak
  have pw16 : pHas cI ad G (k + 1) (96) := pw16.mv (fun i h1 h2 => ha29 i (by omega))
  have hP : va_P D vwCl (pw (k + 5) ad G) H := by rw [show k + 5 = k + 3 + 2 by omega]; exact hP
  have hD : va_D A (pw (k + 5) ad G) := by rw [show k + 5 = k + 3 + 2 by omega]; exact hD
  have pw29 : pHas cI ad G (k + 3) (96) := pw29
  refine va_putF (D := D) (ci := 5) (v := .ref (ad (k + 3))) (ty := tyX5 2) (C := RX5) (T := TX5) (N := 9) hx hb hts hin5 tyX5 tyX5_ok nmX5 hown hK hP hD hS (k) (pw_at (by omega) (k29_0)) rfl 2 (by decide) q_f_RX5_24_Euclid_second_LWhole (fun _ h9 => h9) rfl hnm rfl (tyX5_ok 2 (by decide)) rfl rfl (Nat.le_of_ble_eq_true rfl) dX5_init_32 (fun H locs hP hD hS => ?_)
  rw [pw_set] at hP hD
  obtain ⟨G_32, hg32⟩ : ∃ g : Nat → va_E, g = zu G (k) (.inr (5, [.ref (ad (d)), .ref (ad (k + 1)), .ref (ad (k + 3)), .null, .null, .long (lZ (0)), .long (lZ (0)), .long (lZ (0)), .long (lZ (0))])) := ⟨_, rfl⟩
  have hP : va_P D vwCl (pw (k + 5) ad G_32) H := by rw [hg32]; exact hP
  have hD : va_D A (pw (k + 5) ad G_32) := by rw [hg32]; exact hD
  have ho32 : ∀ i8 : Nat, i8 ≠ k → G_32 i8 = G i8 := fun i8 hk => by rw [hg32]; exact zu_n _ _ hk
  have he32 : G_32 (k) = .inr (5, [.ref (ad (d)), .ref (ad (k + 1)), .ref (ad (k + 3)), .null, .null, .long (lZ (0)), .long (lZ (0)), .long (lZ (0)), .long (lZ (0))]) := by rw [hg32]; exact zu_s _ _ _
  have hlo : ∀ i : Nat, i < k → ad i = ad0 i ∧ G_32 i = G0 i := fun i hi => ⟨((show ad (i) = ad (i) ∧ G_32 (i) = G (i) from ⟨rfl, ho32 (i) (by omega)⟩)).1.trans (hlo i hi).1, ((show ad (i) = ad (i) ∧ G_32 (i) = G (i) from ⟨rfl, ho32 (i) (by omega)⟩)).2.trans (hlo i hi).2⟩
  have pw16 : pHas cI ad G_32 (k + 1) (96) := pw16.mv (fun i h1 h2 => ⟨rfl, ho32 i (by omega)⟩)
  have pw29 : pHas cI ad G_32 (k + 3) (96) := pw29.mv (fun i h1 h2 => ⟨rfl, ho32 i (by omega)⟩)
  refine lv_aload_n hx hb dX5_init_35 rfl (lv_at hl 0 rfl) ?_
  refine zk_new (D := D) (C := RX9) (T := TX9) (N := 2) (ci := 9) hx hb hts hin9 tyX9 tyX9_ok hown q_classLink_RX5_15_RX9 q_instantiable_RX9_2 q_initialized_RX9 hK hP hD hS hA rfl [.null, .int (iZ (0))] (hfX9) (by show _ ≤ 8; omega) (by show _ ≤ 392; omega) dX5_init_36 (fun ad G H ha36 hn36 hP hD hS => ?_)
  have hl : lv_has ls 2 [(0, .ref (ad (k))), (1, .ref (ad (d)))] := by rw [(ha36 (d) (by omega)).1, (ha36 (k) (by omega)).1]; exact hl
  refine zk_st [.ref (ad (k + 5)), .ref (ad (k))] (by rw [(ha36 (k) (by omega)).1]) ?_
  have k36_0 : G (k) = .inr (5, [.ref (ad (d)), .ref (ad (k + 1)), .ref (ad (k + 3)), .null, .null, .long (lZ (0)), .long (lZ (0)), .long (lZ (0)), .long (lZ (0))]) := by rw [(ha36 (k) (by omega)).2, he32, (ha36 (d) (by omega)).1, (ha36 (k + 1) (by omega)).1, (ha36 (k + 3) (by omega)).1]
  have hlo : ∀ i : Nat, i < k → ad i = ad0 i ∧ G i = G0 i := fun i hi => ⟨((ha36 (i) (by omega))).1.trans (hlo i hi).1, ((ha36 (i) (by omega))).2.trans (hlo i hi).2⟩
  have hak : ad k = ad0 k := ((ha36 (k) (by omega))).1.trans hak
  have pw16 : pHas cI ad G (k + 1) (96) := pw16.mv (fun i h1 h2 => ha36 i (by omega))
  have pw29 : pHas cI ad G (k + 3) (96) := pw29.mv (fun i h1 h2 => ha36 i (by omega))
  have hP : va_P D vwCl (pw (k + 6) ad G) H := by rw [show k + 6 = k + 5 + 1 by omega]; exact hP
  have hD : va_D A (pw (k + 6) ad G) := by rw [show k + 6 = k + 5 + 1 by omega]; exact hD
  refine lv_dup hx hb dX5_init_39 rfl ?_
  refine lv_bipush (v := iZ 96) hx hb dX5_init_40 (by decide) ?_
  refine zc_Kv (As := [.int (iZ (96))]) (rest := [.ref (ad (k + 5)), .ref (ad (k))]) ⟨hx, hb, hml, hown, hts⟩ (k_whole l D cI cJ cE cF cR (_) (k + 5) ad G (by omega) (96) (by omega) (by omega) (hn36)) (cwI 1 hts gX5_init_X9_init rfl rfl rfl q_initialized_RX9 q_methodLink_RX5_17_yX9_init q_instanceMethod_yX9_init rfl (by decide +kernel) ⟨Nat.le_of_ble_eq_true rfl, Nat.le_of_ble_eq_true rfl⟩) hN hAO hK hP hD hS hA rfl hl.1 (Nat.le_of_ble_eq_true rfl) dX5_init_42 ⟨by show _ ≤ 8; omega, by show _ ≤ 392; omega⟩ (fun ad G H locs ha42 hao42 pw42 hP hD hS => ?_)
  have hl : lv_has ls 2 [(0, .ref (ad (k))), (1, .ref (ad (d)))] := by rw [(ha42 (d) (by omega)).1, (ha42 (k) (by omega)).1]; exact hl
  refine zk_st [.ref (ad (k + 5)), .ref (ad (k))] (by rw [(ha42 (k) (by omega)).1, hao42]) ?_
  have k42_0 : G (k) = .inr (5, [.ref (ad (d)), .ref (ad (k + 1)), .ref (ad (k + 3)), .null, .null, .long (lZ (0)), .long (lZ (0)), .long (lZ (0)), .long (lZ (0))]) := by rw [(ha42 (k) (by omega)).2, k36_0, (ha42 (d) (by omega)).1, (ha42 (k + 1) (by omega)).1, (ha42 (k + 3) (by omega)).1]
  have hlo : ∀ i : Nat, i < k → ad i = ad0 i ∧ G i = G0 i := fun i hi => ⟨((ha42 (i) (by omega))).1.trans (hlo i hi).1, ((ha42 (i) (by omega))).2.trans (hlo i hi).2⟩
  have hak : ad k = ad0 k := ((ha42 (k) (by omega))).1.trans hak
  have pw16 : pHas cI ad G (k + 1) (96) := pw16.mv (fun i h1 h2 => ha42 i (by omega))
  have pw29 : pHas cI ad G (k + 3) (96) := pw29.mv (fun i h1 h2 => ha42 i (by omega))
  have hP : va_P D vwCl (pw (k + 7) ad G) H := by rw [show k + 7 = k + 5 + 2 by omega]; exact hP
  have hD : va_D A (pw (k + 7) ad G) := by rw [show k + 7 = k + 5 + 2 by omega]; exact hD
  have pw42 : pHas cI ad G (k + 5) (96) := pw42
  refine va_putF (D := D) (ci := 5) (v := .ref (ad (k + 5))) (ty := tyX5 3) (C := RX5) (T := TX5) (N := 9) hx hb hts hin5 tyX5 tyX5_ok nmX5 hown hK hP hD hS (k) (pw_at (by omega) (k42_0)) rfl 3 (by decide) q_f_RX5_27_Euclid_third_LWhole (fun _ h9 => h9) rfl hnm rfl (tyX5_ok 3 (by decide)) rfl rfl (Nat.le_of_ble_eq_true rfl) dX5_init_45 (fun H locs hP hD hS => ?_)
  rw [pw_set] at hP hD
  obtain ⟨G_45, hg45⟩ : ∃ g : Nat → va_E, g = zu G (k) (.inr (5, [.ref (ad (d)), .ref (ad (k + 1)), .ref (ad (k + 3)), .ref (ad (k + 5)), .null, .long (lZ (0)), .long (lZ (0)), .long (lZ (0)), .long (lZ (0))])) := ⟨_, rfl⟩
  have hP : va_P D vwCl (pw (k + 7) ad G_45) H := by rw [hg45]; exact hP
  have hD : va_D A (pw (k + 7) ad G_45) := by rw [hg45]; exact hD
  have ho45 : ∀ i8 : Nat, i8 ≠ k → G_45 i8 = G i8 := fun i8 hk => by rw [hg45]; exact zu_n _ _ hk
  have he45 : G_45 (k) = .inr (5, [.ref (ad (d)), .ref (ad (k + 1)), .ref (ad (k + 3)), .ref (ad (k + 5)), .null, .long (lZ (0)), .long (lZ (0)), .long (lZ (0)), .long (lZ (0))]) := by rw [hg45]; exact zu_s _ _ _
  have hlo : ∀ i : Nat, i < k → ad i = ad0 i ∧ G_45 i = G0 i := fun i hi => ⟨((show ad (i) = ad (i) ∧ G_45 (i) = G (i) from ⟨rfl, ho45 (i) (by omega)⟩)).1.trans (hlo i hi).1, ((show ad (i) = ad (i) ∧ G_45 (i) = G (i) from ⟨rfl, ho45 (i) (by omega)⟩)).2.trans (hlo i hi).2⟩
  have pw16 : pHas cI ad G_45 (k + 1) (96) := pw16.mv (fun i h1 h2 => ⟨rfl, ho45 i (by omega)⟩)
  have pw29 : pHas cI ad G_45 (k + 3) (96) := pw29.mv (fun i h1 h2 => ⟨rfl, ho45 i (by omega)⟩)
  have pw42 : pHas cI ad G_45 (k + 5) (96) := pw42.mv (fun i h1 h2 => ⟨rfl, ho45 i (by omega)⟩)
  refine lv_aload_n hx hb dX5_init_48 rfl (lv_at hl 0 rfl) ?_
  refine zk_new (D := D) (C := RX9) (T := TX9) (N := 2) (ci := 9) hx hb hts hin9 tyX9 tyX9_ok hown q_classLink_RX5_15_RX9 q_instantiable_RX9_2 q_initialized_RX9 hK hP hD hS hA rfl [.null, .int (iZ (0))] (hfX9) (by show _ ≤ 8; omega) (by show _ ≤ 392; omega) dX5_init_49 (fun ad G H ha49 hn49 hP hD hS => ?_)
  have hl : lv_has ls 2 [(0, .ref (ad (k))), (1, .ref (ad (d)))] := by rw [(ha49 (d) (by omega)).1, (ha49 (k) (by omega)).1]; exact hl
  refine zk_st [.ref (ad (k + 7)), .ref (ad (k))] (by rw [(ha49 (k) (by omega)).1]) ?_
  have k49_0 : G (k) = .inr (5, [.ref (ad (d)), .ref (ad (k + 1)), .ref (ad (k + 3)), .ref (ad (k + 5)), .null, .long (lZ (0)), .long (lZ (0)), .long (lZ (0)), .long (lZ (0))]) := by rw [(ha49 (k) (by omega)).2, he45, (ha49 (d) (by omega)).1, (ha49 (k + 1) (by omega)).1, (ha49 (k + 3) (by omega)).1, (ha49 (k + 5) (by omega)).1]
  have hlo : ∀ i : Nat, i < k → ad i = ad0 i ∧ G i = G0 i := fun i hi => ⟨((ha49 (i) (by omega))).1.trans (hlo i hi).1, ((ha49 (i) (by omega))).2.trans (hlo i hi).2⟩
  have hak : ad k = ad0 k := ((ha49 (k) (by omega))).1.trans hak
  have pw16 : pHas cI ad G (k + 1) (96) := pw16.mv (fun i h1 h2 => ha49 i (by omega))
  have pw29 : pHas cI ad G (k + 3) (96) := pw29.mv (fun i h1 h2 => ha49 i (by omega))
  have pw42 : pHas cI ad G (k + 5) (96) := pw42.mv (fun i h1 h2 => ha49 i (by omega))
  have hP : va_P D vwCl (pw (k + 8) ad G) H := by rw [show k + 8 = k + 7 + 1 by omega]; exact hP
  have hD : va_D A (pw (k + 8) ad G) := by rw [show k + 8 = k + 7 + 1 by omega]; exact hD
  refine lv_dup hx hb dX5_init_52 rfl ?_
  refine lv_bipush (v := iZ 96) hx hb dX5_init_53 (by decide) ?_
  refine zc_Kv (As := [.int (iZ (96))]) (rest := [.ref (ad (k + 7)), .ref (ad (k))]) ⟨hx, hb, hml, hown, hts⟩ (k_whole l D cI cJ cE cF cR (_) (k + 7) ad G (by omega) (96) (by omega) (by omega) (hn49)) (cwI 1 hts gX5_init_X9_init rfl rfl rfl q_initialized_RX9 q_methodLink_RX5_17_yX9_init q_instanceMethod_yX9_init rfl (by decide +kernel) ⟨Nat.le_of_ble_eq_true rfl, Nat.le_of_ble_eq_true rfl⟩) hN hAO hK hP hD hS hA rfl hl.1 (Nat.le_of_ble_eq_true rfl) dX5_init_55 ⟨by show _ ≤ 8; omega, by show _ ≤ 392; omega⟩ (fun ad G H locs ha55 hao55 pw55 hP hD hS => ?_)
  have hl : lv_has ls 2 [(0, .ref (ad (k))), (1, .ref (ad (d)))] := by rw [(ha55 (d) (by omega)).1, (ha55 (k) (by omega)).1]; exact hl
  refine zk_st [.ref (ad (k + 7)), .ref (ad (k))] (by rw [(ha55 (k) (by omega)).1, hao55]) ?_
  have k55_0 : G (k) = .inr (5, [.ref (ad (d)), .ref (ad (k + 1)), .ref (ad (k + 3)), .ref (ad (k + 5)), .null, .long (lZ (0)), .long (lZ (0)), .long (lZ (0)), .long (lZ (0))]) := by rw [(ha55 (k) (by omega)).2, k49_0, (ha55 (d) (by omega)).1, (ha55 (k + 1) (by omega)).1, (ha55 (k + 3) (by omega)).1, (ha55 (k + 5) (by omega)).1]
  have hlo : ∀ i : Nat, i < k → ad i = ad0 i ∧ G i = G0 i := fun i hi => ⟨((ha55 (i) (by omega))).1.trans (hlo i hi).1, ((ha55 (i) (by omega))).2.trans (hlo i hi).2⟩
  have hak : ad k = ad0 k := ((ha55 (k) (by omega))).1.trans hak
  have pw16 : pHas cI ad G (k + 1) (96) := pw16.mv (fun i h1 h2 => ha55 i (by omega))
  have pw29 : pHas cI ad G (k + 3) (96) := pw29.mv (fun i h1 h2 => ha55 i (by omega))
  have pw42 : pHas cI ad G (k + 5) (96) := pw42.mv (fun i h1 h2 => ha55 i (by omega))
  have hP : va_P D vwCl (pw (k + 9) ad G) H := by rw [show k + 9 = k + 7 + 2 by omega]; exact hP
  have hD : va_D A (pw (k + 9) ad G) := by rw [show k + 9 = k + 7 + 2 by omega]; exact hD
  have pw55 : pHas cI ad G (k + 7) (96) := pw55
  refine va_putF (D := D) (ci := 5) (v := .ref (ad (k + 7))) (ty := tyX5 4) (C := RX5) (T := TX5) (N := 9) hx hb hts hin5 tyX5 tyX5_ok nmX5 hown hK hP hD hS (k) (pw_at (by omega) (k55_0)) rfl 4 (by decide) q_f_RX5_30_Euclid_unused_LWhole (fun _ h9 => h9) rfl hnm rfl (tyX5_ok 4 (by decide)) rfl rfl (Nat.le_of_ble_eq_true rfl) dX5_init_58 (fun H locs hP hD hS => ?_)
  rw [pw_set] at hP hD
  obtain ⟨G_58, hg58⟩ : ∃ g : Nat → va_E, g = zu G (k) (.inr (5, [.ref (ad (d)), .ref (ad (k + 1)), .ref (ad (k + 3)), .ref (ad (k + 5)), .ref (ad (k + 7)), .long (lZ (0)), .long (lZ (0)), .long (lZ (0)), .long (lZ (0))])) := ⟨_, rfl⟩
  have hP : va_P D vwCl (pw (k + 9) ad G_58) H := by rw [hg58]; exact hP
  have hD : va_D A (pw (k + 9) ad G_58) := by rw [hg58]; exact hD
  have ho58 : ∀ i8 : Nat, i8 ≠ k → G_58 i8 = G i8 := fun i8 hk => by rw [hg58]; exact zu_n _ _ hk
  have he58 : G_58 (k) = .inr (5, [.ref (ad (d)), .ref (ad (k + 1)), .ref (ad (k + 3)), .ref (ad (k + 5)), .ref (ad (k + 7)), .long (lZ (0)), .long (lZ (0)), .long (lZ (0)), .long (lZ (0))]) := by rw [hg58]; exact zu_s _ _ _
  have hlo : ∀ i : Nat, i < k → ad i = ad0 i ∧ G_58 i = G0 i := fun i hi => ⟨((show ad (i) = ad (i) ∧ G_58 (i) = G (i) from ⟨rfl, ho58 (i) (by omega)⟩)).1.trans (hlo i hi).1, ((show ad (i) = ad (i) ∧ G_58 (i) = G (i) from ⟨rfl, ho58 (i) (by omega)⟩)).2.trans (hlo i hi).2⟩
  have pw16 : pHas cI ad G_58 (k + 1) (96) := pw16.mv (fun i h1 h2 => ⟨rfl, ho58 i (by omega)⟩)
  have pw29 : pHas cI ad G_58 (k + 3) (96) := pw29.mv (fun i h1 h2 => ⟨rfl, ho58 i (by omega)⟩)
  have pw42 : pHas cI ad G_58 (k + 5) (96) := pw42.mv (fun i h1 h2 => ⟨rfl, ho58 i (by omega)⟩)
  have pw55 : pHas cI ad G_58 (k + 7) (96) := pw55.mv (fun i h1 h2 => ⟨rfl, ho58 i (by omega)⟩)
  refine lv_aload_n hx hb dX5_init_61 rfl (lv_at hl 0 rfl) ?_
  refine lv_lconst (v := lZ 1) hx hb dX5_init_62 rfl ?_
  refine va_put (D := D) (ci := 5) (v := .long (lZ (1))) (ty := tyX5 5) (C := RX5) (T := TX5) (N := 9) hx hb hts hin5 tyX5 tyX5_ok nmX5 hown hK hP hD hS (k) (pw_at (by omega) (he58)) rfl 5 (by decide) q_f_RX5_33_Euclid_uu_J (fun _ h9 => h9) rfl (tyX5_ok 5 (by decide)) rfl rfl (Nat.le_of_ble_eq_true rfl) dX5_init_63 (fun H locs hP hD hS => ?_)
  rw [pw_set] at hP hD
  obtain ⟨G_63, hg63⟩ : ∃ g : Nat → va_E, g = zu G_58 (k) (.inr (5, [.ref (ad (d)), .ref (ad (k + 1)), .ref (ad (k + 3)), .ref (ad (k + 5)), .ref (ad (k + 7)), .long (lZ (1)), .long (lZ (0)), .long (lZ (0)), .long (lZ (0))])) := ⟨_, rfl⟩
  have hP : va_P D vwCl (pw (k + 9) ad G_63) H := by rw [hg63]; exact hP
  have hD : va_D A (pw (k + 9) ad G_63) := by rw [hg63]; exact hD
  have ho63 : ∀ i8 : Nat, i8 ≠ k → G_63 i8 = G_58 i8 := fun i8 hk => by rw [hg63]; exact zu_n _ _ hk
  have he63 : G_63 (k) = .inr (5, [.ref (ad (d)), .ref (ad (k + 1)), .ref (ad (k + 3)), .ref (ad (k + 5)), .ref (ad (k + 7)), .long (lZ (1)), .long (lZ (0)), .long (lZ (0)), .long (lZ (0))]) := by rw [hg63]; exact zu_s _ _ _
  have hlo : ∀ i : Nat, i < k → ad i = ad0 i ∧ G_63 i = G0 i := fun i hi => ⟨((show ad (i) = ad (i) ∧ G_63 (i) = G_58 (i) from ⟨rfl, ho63 (i) (by omega)⟩)).1.trans (hlo i hi).1, ((show ad (i) = ad (i) ∧ G_63 (i) = G_58 (i) from ⟨rfl, ho63 (i) (by omega)⟩)).2.trans (hlo i hi).2⟩
  have pw16 : pHas cI ad G_63 (k + 1) (96) := pw16.mv (fun i h1 h2 => ⟨rfl, ho63 i (by omega)⟩)
  have pw29 : pHas cI ad G_63 (k + 3) (96) := pw29.mv (fun i h1 h2 => ⟨rfl, ho63 i (by omega)⟩)
  have pw42 : pHas cI ad G_63 (k + 5) (96) := pw42.mv (fun i h1 h2 => ⟨rfl, ho63 i (by omega)⟩)
  have pw55 : pHas cI ad G_63 (k + 7) (96) := pw55.mv (fun i h1 h2 => ⟨rfl, ho63 i (by omega)⟩)
  refine lv_aload_n hx hb dX5_init_66 rfl (lv_at hl 0 rfl) ?_
  refine lv_lconst (v := lZ 0) hx hb dX5_init_67 rfl ?_
  refine va_put (D := D) (ci := 5) (v := .long (lZ (0))) (ty := tyX5 6) (C := RX5) (T := TX5) (N := 9) hx hb hts hin5 tyX5 tyX5_ok nmX5 hown hK hP hD hS (k) (pw_at (by omega) (he63)) rfl 6 (by decide) q_f_RX5_37_Euclid_uv_J (fun _ h9 => h9) rfl (tyX5_ok 6 (by decide)) rfl rfl (Nat.le_of_ble_eq_true rfl) dX5_init_68 (fun H locs hP hD hS => ?_)
  rw [pw_set] at hP hD
  obtain ⟨G_68, hg68⟩ : ∃ g : Nat → va_E, g = zu G_63 (k) (.inr (5, [.ref (ad (d)), .ref (ad (k + 1)), .ref (ad (k + 3)), .ref (ad (k + 5)), .ref (ad (k + 7)), .long (lZ (1)), .long (lZ (0)), .long (lZ (0)), .long (lZ (0))])) := ⟨_, rfl⟩
  have hP : va_P D vwCl (pw (k + 9) ad G_68) H := by rw [hg68]; exact hP
  have hD : va_D A (pw (k + 9) ad G_68) := by rw [hg68]; exact hD
  have ho68 : ∀ i8 : Nat, i8 ≠ k → G_68 i8 = G_63 i8 := fun i8 hk => by rw [hg68]; exact zu_n _ _ hk
  have he68 : G_68 (k) = .inr (5, [.ref (ad (d)), .ref (ad (k + 1)), .ref (ad (k + 3)), .ref (ad (k + 5)), .ref (ad (k + 7)), .long (lZ (1)), .long (lZ (0)), .long (lZ (0)), .long (lZ (0))]) := by rw [hg68]; exact zu_s _ _ _
  have hlo : ∀ i : Nat, i < k → ad i = ad0 i ∧ G_68 i = G0 i := fun i hi => ⟨((show ad (i) = ad (i) ∧ G_68 (i) = G_63 (i) from ⟨rfl, ho68 (i) (by omega)⟩)).1.trans (hlo i hi).1, ((show ad (i) = ad (i) ∧ G_68 (i) = G_63 (i) from ⟨rfl, ho68 (i) (by omega)⟩)).2.trans (hlo i hi).2⟩
  have pw16 : pHas cI ad G_68 (k + 1) (96) := pw16.mv (fun i h1 h2 => ⟨rfl, ho68 i (by omega)⟩)
  have pw29 : pHas cI ad G_68 (k + 3) (96) := pw29.mv (fun i h1 h2 => ⟨rfl, ho68 i (by omega)⟩)
  have pw42 : pHas cI ad G_68 (k + 5) (96) := pw42.mv (fun i h1 h2 => ⟨rfl, ho68 i (by omega)⟩)
  have pw55 : pHas cI ad G_68 (k + 7) (96) := pw55.mv (fun i h1 h2 => ⟨rfl, ho68 i (by omega)⟩)
  refine lv_aload_n hx hb dX5_init_71 rfl (lv_at hl 0 rfl) ?_
  refine lv_lconst (v := lZ 0) hx hb dX5_init_72 rfl ?_
  refine va_put (D := D) (ci := 5) (v := .long (lZ (0))) (ty := tyX5 7) (C := RX5) (T := TX5) (N := 9) hx hb hts hin5 tyX5 tyX5_ok nmX5 hown hK hP hD hS (k) (pw_at (by omega) (he68)) rfl 7 (by decide) q_f_RX5_40_Euclid_vu_J (fun _ h9 => h9) rfl (tyX5_ok 7 (by decide)) rfl rfl (Nat.le_of_ble_eq_true rfl) dX5_init_73 (fun H locs hP hD hS => ?_)
  rw [pw_set] at hP hD
  obtain ⟨G_73, hg73⟩ : ∃ g : Nat → va_E, g = zu G_68 (k) (.inr (5, [.ref (ad (d)), .ref (ad (k + 1)), .ref (ad (k + 3)), .ref (ad (k + 5)), .ref (ad (k + 7)), .long (lZ (1)), .long (lZ (0)), .long (lZ (0)), .long (lZ (0))])) := ⟨_, rfl⟩
  have hP : va_P D vwCl (pw (k + 9) ad G_73) H := by rw [hg73]; exact hP
  have hD : va_D A (pw (k + 9) ad G_73) := by rw [hg73]; exact hD
  have ho73 : ∀ i8 : Nat, i8 ≠ k → G_73 i8 = G_68 i8 := fun i8 hk => by rw [hg73]; exact zu_n _ _ hk
  have he73 : G_73 (k) = .inr (5, [.ref (ad (d)), .ref (ad (k + 1)), .ref (ad (k + 3)), .ref (ad (k + 5)), .ref (ad (k + 7)), .long (lZ (1)), .long (lZ (0)), .long (lZ (0)), .long (lZ (0))]) := by rw [hg73]; exact zu_s _ _ _
  have hlo : ∀ i : Nat, i < k → ad i = ad0 i ∧ G_73 i = G0 i := fun i hi => ⟨((show ad (i) = ad (i) ∧ G_73 (i) = G_68 (i) from ⟨rfl, ho73 (i) (by omega)⟩)).1.trans (hlo i hi).1, ((show ad (i) = ad (i) ∧ G_73 (i) = G_68 (i) from ⟨rfl, ho73 (i) (by omega)⟩)).2.trans (hlo i hi).2⟩
  have pw16 : pHas cI ad G_73 (k + 1) (96) := pw16.mv (fun i h1 h2 => ⟨rfl, ho73 i (by omega)⟩)
  have pw29 : pHas cI ad G_73 (k + 3) (96) := pw29.mv (fun i h1 h2 => ⟨rfl, ho73 i (by omega)⟩)
  have pw42 : pHas cI ad G_73 (k + 5) (96) := pw42.mv (fun i h1 h2 => ⟨rfl, ho73 i (by omega)⟩)
  have pw55 : pHas cI ad G_73 (k + 7) (96) := pw55.mv (fun i h1 h2 => ⟨rfl, ho73 i (by omega)⟩)
  refine lv_aload_n hx hb dX5_init_76 rfl (lv_at hl 0 rfl) ?_
  refine lv_lconst (v := lZ 1) hx hb dX5_init_77 rfl ?_
  refine va_put (D := D) (ci := 5) (v := .long (lZ (1))) (ty := tyX5 8) (C := RX5) (T := TX5) (N := 9) hx hb hts hin5 tyX5 tyX5_ok nmX5 hown hK hP hD hS (k) (pw_at (by omega) (he73)) rfl 8 (by decide) q_f_RX5_43_Euclid_vv_J (fun _ h9 => h9) rfl (tyX5_ok 8 (by decide)) rfl rfl (Nat.le_of_ble_eq_true rfl) dX5_init_78 (fun H locs hP hD hS => ?_)
  rw [pw_set] at hP hD
  obtain ⟨G_78, hg78⟩ : ∃ g : Nat → va_E, g = zu G_73 (k) (.inr (5, [.ref (ad (d)), .ref (ad (k + 1)), .ref (ad (k + 3)), .ref (ad (k + 5)), .ref (ad (k + 7)), .long (lZ (1)), .long (lZ (0)), .long (lZ (0)), .long (lZ (1))])) := ⟨_, rfl⟩
  have hP : va_P D vwCl (pw (k + 9) ad G_78) H := by rw [hg78]; exact hP
  have hD : va_D A (pw (k + 9) ad G_78) := by rw [hg78]; exact hD
  have ho78 : ∀ i8 : Nat, i8 ≠ k → G_78 i8 = G_73 i8 := fun i8 hk => by rw [hg78]; exact zu_n _ _ hk
  have he78 : G_78 (k) = .inr (5, [.ref (ad (d)), .ref (ad (k + 1)), .ref (ad (k + 3)), .ref (ad (k + 5)), .ref (ad (k + 7)), .long (lZ (1)), .long (lZ (0)), .long (lZ (0)), .long (lZ (1))]) := by rw [hg78]; exact zu_s _ _ _
  have hlo : ∀ i : Nat, i < k → ad i = ad0 i ∧ G_78 i = G0 i := fun i hi => ⟨((show ad (i) = ad (i) ∧ G_78 (i) = G_73 (i) from ⟨rfl, ho78 (i) (by omega)⟩)).1.trans (hlo i hi).1, ((show ad (i) = ad (i) ∧ G_78 (i) = G_73 (i) from ⟨rfl, ho78 (i) (by omega)⟩)).2.trans (hlo i hi).2⟩
  have pw16 : pHas cI ad G_78 (k + 1) (96) := pw16.mv (fun i h1 h2 => ⟨rfl, ho78 i (by omega)⟩)
  have pw29 : pHas cI ad G_78 (k + 3) (96) := pw29.mv (fun i h1 h2 => ⟨rfl, ho78 i (by omega)⟩)
  have pw42 : pHas cI ad G_78 (k + 5) (96) := pw42.mv (fun i h1 h2 => ⟨rfl, ho78 i (by omega)⟩)
  have pw55 : pHas cI ad G_78 (k + 7) (96) := pw55.mv (fun i h1 h2 => ⟨rfl, ho78 i (by omega)⟩)
  exact zr_vret hQ hx hb hr hlk dX5_init_81 hK hP hD hS (by omega) (by omega) (⟨ad, G_78, rfl, hlo, hak, ⟨⟨1, 0, 0, 1, he78⟩, pw16, pw29, pw42, pw55⟩⟩)

set_option maxHeartbeats 4000000 in
set_option maxRecDepth 100000 in
/-- Arithmetic -/
theorem k_ar (l : Launch) (D : va_G) (cI cJ cE cF cR : ClassId) (n k : Nat) (ad0 : Nat → Nat) (G0 : Nat → va_E) (hn : n = k + 1) (hG0 : G0 k = .inr (0, [.null, .null, .null, .null, .null, .null, .null, .null, .null])) : Kv l D (zty cI cJ cE cF cR) yX0_init wsX0_init ({ frames := 3, cells := 26, slots := 1283, locals := 54 } : Room) (26) (1283) [.ref (ad0 (k))] (pw n ad0 G0) (kPo k 27 ad0 G0 (fun ad G => kAr cI ad G k)) := by
  unfold Kv
  refine zsK (Qc := zQv D _ _) (cc := cX0_init) (maxL := 1) (ret := none) (by decide) rfl (Nat.le_of_ble_eq_true rfl) ?_
  intro zp ze s zm below meth zc ls A args Q hQ hx hb hr hts hown hlk hml hnm hN hAO hA hK hP hD hS hl
  have q_methodLink_RX0_3_objectInit := hts (.methodLink RX0 3 objectInit) (by decide +kernel)
  have q_instanceMethod_objectInit := hts (.instanceMethod objectInit) (by decide +kernel)
  have q_code_objectInit_0xb1_1_none := hts (.code objectInit ⟨#[0xb1]⟩ 1 none) (by decide +kernel)
  have hin1 : ∀ w ∈ wsX10, w ∈ wsX0_init := by decide +kernel
  have q_classLink_RX0_9_RX1 := hts (.classLink RX0 9 RX1) (by decide +kernel)
  have q_instantiable_RX1_2 := hts (.instantiable RX1 2) (by decide +kernel)
  have q_initialized_RX1 := hts (.initialized RX1) (by decide +kernel)
  have q_methodLink_RX0_11_yX1_init := hts (.methodLink RX0 11 yX1_init) (by decide +kernel)
  have q_instanceMethod_yX1_init := hts (.instanceMethod yX1_init) (by decide +kernel)
  have q_f_RX0_12_Arithmetic_division_LDivision := hts (.fieldLink RX0 12 "LimbSolver$Arithmetic" "division" "LLimbSolver$Division;") (by decide +kernel)
  have hin0 : ∀ w ∈ wsX00, w ∈ wsX0_init := by decide +kernel
  have hin5 : ∀ w ∈ wsX50, w ∈ wsX0_init := by decide +kernel
  have q_classLink_RX0_18_RX5 := hts (.classLink RX0 18 RX5) (by decide +kernel)
  have q_instantiable_RX5_9 := hts (.instantiable RX5 9) (by decide +kernel)
  have q_initialized_RX5 := hts (.initialized RX5) (by decide +kernel)
  have q_methodLink_RX0_20_yX5_init := hts (.methodLink RX0 20 yX5_init) (by decide +kernel)
  have q_instanceMethod_yX5_init := hts (.instanceMethod yX5_init) (by decide +kernel)
  have q_f_RX0_23_Arithmetic_euclid_LEuclid := hts (.fieldLink RX0 23 "LimbSolver$Arithmetic" "euclid" "LLimbSolver$Euclid;") (by decide +kernel)
  have hin9 : ∀ w ∈ wsX90, w ∈ wsX0_init := by decide +kernel
  have q_classLink_RX0_27_RX9 := hts (.classLink RX0 27 RX9) (by decide +kernel)
  have q_instantiable_RX9_2 := hts (.instantiable RX9 2) (by decide +kernel)
  have q_initialized_RX9 := hts (.initialized RX9) (by decide +kernel)
  have q_methodLink_RX0_29_yX9_init := hts (.methodLink RX0 29 yX9_init) (by decide +kernel)
  have q_instanceMethod_yX9_init := hts (.instanceMethod yX9_init) (by decide +kernel)
  have q_f_RX0_32_Arithmetic_rest_LWhole := hts (.fieldLink RX0 32 "LimbSolver$Arithmetic" "rest" "LLimbSolver$Whole;") (by decide +kernel)
  have q_f_RX0_36_Arithmetic_part_LWhole := hts (.fieldLink RX0 36 "LimbSolver$Arithmetic" "part" "LLimbSolver$Whole;") (by decide +kernel)
  have q_f_RX0_39_Arithmetic_product_LWhole := hts (.fieldLink RX0 39 "LimbSolver$Arithmetic" "product" "LLimbSolver$Whole;") (by decide +kernel)
  have q_f_RX0_42_Arithmetic_firstNum_LWhole := hts (.fieldLink RX0 42 "LimbSolver$Arithmetic" "firstNum" "LLimbSolver$Whole;") (by decide +kernel)
  have q_f_RX0_45_Arithmetic_firstDen_LWhole := hts (.fieldLink RX0 45 "LimbSolver$Arithmetic" "firstDen" "LLimbSolver$Whole;") (by decide +kernel)
  have q_f_RX0_48_Arithmetic_secondNum_LWhole := hts (.fieldLink RX0 48 "LimbSolver$Arithmetic" "secondNum" "LLimbSolver$Whole;") (by decide +kernel)
  have q_f_RX0_51_Arithmetic_secondDen_LWhole := hts (.fieldLink RX0 51 "LimbSolver$Arithmetic" "secondDen" "LLimbSolver$Whole;") (by decide +kernel)
  have hl : lv_has ls 1 [(0, .ref (ad0 (k)))] := hl
  obtain ⟨ad, G, had0, hGG0⟩ : ∃ (ad : Nat → Nat) (G : Nat → va_E), ad = ad0 ∧ G = G0 := ⟨ad0, G0, rfl, rfl⟩
  have hP : va_P D vwCl (pw (k + 1) ad G) s.heap := by rw [had0, hGG0, ← hn]; exact hP
  have hD : va_D A (pw (k + 1) ad G) := by rw [had0, hGG0, ← hn]; exact hD
  have hl : lv_has ls 1 [(0, .ref (ad (k)))] := by rw [had0]; exact hl
  have hlo : ∀ i : Nat, i < k → ad i = ad0 i ∧ G i = G0 i := fun i hi => by rw [had0, hGG0]; exact ⟨rfl, rfl⟩
  have hak : ad k = ad0 k := by rw [had0]
  have hk0 : G (k) = .inr (0, [.null, .null, .null, .null, .null, .null, .null, .null, .null]) := by rw [hGG0]; exact hG0
  refine lv_aload_n hx hb dX0_init_0 rfl (lv_at hl 0 rfl) ?_
  refine zk_obj hx hb hown q_methodLink_RX0_3_objectInit q_instanceMethod_objectInit q_code_objectInit_0xb1_1_none (hl.1.trans hml.symm) dX0_init_1 (Nat.le_of_ble_eq_true rfl) (Nat.le_of_ble_eq_true rfl) ?_
  refine lv_aload_n hx hb dX0_init_4 rfl (lv_at hl 0 rfl) ?_
  refine zk_new (D := D) (C := RX1) (T := TX1) (N := 2) (ci := 1) hx hb hts hin1 tyX1 tyX1_ok hown q_classLink_RX0_9_RX1 q_instantiable_RX1_2 q_initialized_RX1 hK hP hD hS hA rfl [.null, .null] (hfX1) (by show _ ≤ 26; omega) (by show _ ≤ 1283; omega) dX0_init_5 (fun ad G H ha5 hn5 hP hD hS => ?_)
  have hl : lv_has ls 1 [(0, .ref (ad (k)))] := by rw [(ha5 (k) (by omega)).1]; exact hl
  refine zk_st [.ref (ad (k + 1)), .ref (ad (k))] (by rw [(ha5 (k) (by omega)).1]) ?_
  have k5_0 : G (k) = .inr (0, [.null, .null, .null, .null, .null, .null, .null, .null, .null]) := by rw [(ha5 (k) (by omega)).2, hk0]
  have hlo : ∀ i : Nat, i < k → ad i = ad0 i ∧ G i = G0 i := fun i hi => ⟨((ha5 (i) (by omega))).1.trans (hlo i hi).1, ((ha5 (i) (by omega))).2.trans (hlo i hi).2⟩
  have hak : ad k = ad0 k := ((ha5 (k) (by omega))).1.trans hak
  have hP : va_P D vwCl (pw (k + 2) ad G) H := by rw [show k + 2 = k + 1 + 1 by omega]; exact hP
  have hD : va_D A (pw (k + 2) ad G) := by rw [show k + 2 = k + 1 + 1 by omega]; exact hD
  refine lv_dup hx hb dX0_init_8 rfl ?_
  refine zc_Kv (As := []) (rest := [.ref (ad (k + 1)), .ref (ad (k))]) ⟨hx, hb, hml, hown, hts⟩ (k_div l D cI cJ cE cF cR (_) (k + 1) ad G (by omega) (hn5)) (cwI 0 hts gX0_init_X1_init rfl rfl rfl q_initialized_RX1 q_methodLink_RX0_11_yX1_init q_instanceMethod_yX1_init rfl (by decide +kernel) ⟨Nat.le_of_ble_eq_true rfl, Nat.le_of_ble_eq_true rfl⟩) hN hAO hK hP hD hS hA rfl hl.1 (Nat.le_of_ble_eq_true rfl) dX0_init_9 ⟨by show _ ≤ 26; omega, by show _ ≤ 1283; omega⟩ (fun ad G H locs ha9 hao9 px9 hP hD hS => ?_)
  have hl : lv_has ls 1 [(0, .ref (ad (k)))] := by rw [(ha9 (k) (by omega)).1]; exact hl
  refine zk_st [.ref (ad (k + 1)), .ref (ad (k))] (by rw [(ha9 (k) (by omega)).1, hao9]) ?_
  have k9_0 : G (k) = .inr (0, [.null, .null, .null, .null, .null, .null, .null, .null, .null]) := by rw [(ha9 (k) (by omega)).2, k5_0]
  have hlo : ∀ i : Nat, i < k → ad i = ad0 i ∧ G i = G0 i := fun i hi => ⟨((ha9 (i) (by omega))).1.trans (hlo i hi).1, ((ha9 (i) (by omega))).2.trans (hlo i hi).2⟩
  have hak : ad k = ad0 k := ((ha9 (k) (by omega))).1.trans hak
  have hP : va_P D vwCl (pw (k + 4) ad G) H := by rw [show k + 4 = k + 1 + 3 by omega]; exact hP
  have hD : va_D A (pw (k + 4) ad G) := by rw [show k + 4 = k + 1 + 3 by omega]; exact hD
  have px9 : kDv cI ad G (k + 1) := px9
  refine va_putF (D := D) (ci := 0) (v := .ref (ad (k + 1))) (ty := tyX0 0) (C := RX0) (T := TX0) (N := 9) hx hb hts hin0 tyX0 tyX0_ok nmX0 hown hK hP hD hS (k) (pw_at (by omega) (k9_0)) rfl 0 (by decide) q_f_RX0_12_Arithmetic_division_LDivision (fun _ h9 => h9) rfl hnm rfl (tyX0_ok 0 (by decide)) rfl rfl (Nat.le_of_ble_eq_true rfl) dX0_init_12 (fun H locs hP hD hS => ?_)
  rw [pw_set] at hP hD
  obtain ⟨G_12, hg12⟩ : ∃ g : Nat → va_E, g = zu G (k) (.inr (0, [.ref (ad (k + 1)), .null, .null, .null, .null, .null, .null, .null, .null])) := ⟨_, rfl⟩
  have hP : va_P D vwCl (pw (k + 4) ad G_12) H := by rw [hg12]; exact hP
  have hD : va_D A (pw (k + 4) ad G_12) := by rw [hg12]; exact hD
  have ho12 : ∀ i8 : Nat, i8 ≠ k → G_12 i8 = G i8 := fun i8 hk => by rw [hg12]; exact zu_n _ _ hk
  have he12 : G_12 (k) = .inr (0, [.ref (ad (k + 1)), .null, .null, .null, .null, .null, .null, .null, .null]) := by rw [hg12]; exact zu_s _ _ _
  have hlo : ∀ i : Nat, i < k → ad i = ad0 i ∧ G_12 i = G0 i := fun i hi => ⟨((show ad (i) = ad (i) ∧ G_12 (i) = G (i) from ⟨rfl, ho12 (i) (by omega)⟩)).1.trans (hlo i hi).1, ((show ad (i) = ad (i) ∧ G_12 (i) = G (i) from ⟨rfl, ho12 (i) (by omega)⟩)).2.trans (hlo i hi).2⟩
  have px9 : kDv cI ad G_12 (k + 1) := px9.mv (fun i h1 h2 => ⟨rfl, ho12 i (by omega)⟩)
  refine lv_aload_n hx hb dX0_init_15 rfl (lv_at hl 0 rfl) ?_
  refine zk_new (D := D) (C := RX5) (T := TX5) (N := 9) (ci := 5) hx hb hts hin5 tyX5 tyX5_ok hown q_classLink_RX0_18_RX5 q_instantiable_RX5_9 q_initialized_RX5 hK hP hD hS hA rfl [.null, .null, .null, .null, .null, .long (lZ (0)), .long (lZ (0)), .long (lZ (0)), .long (lZ (0))] (hfX5) (by show _ ≤ 26; omega) (by show _ ≤ 1283; omega) dX0_init_16 (fun ad G H ha16 hn16 hP hD hS => ?_)
  have hl : lv_has ls 1 [(0, .ref (ad (k)))] := by rw [(ha16 (k) (by omega)).1]; exact hl
  refine zk_st [.ref (ad (k + 4)), .ref (ad (k))] (by rw [(ha16 (k) (by omega)).1]) ?_
  have k16_0 : G (k) = .inr (0, [.ref (ad (k + 1)), .null, .null, .null, .null, .null, .null, .null, .null]) := by rw [(ha16 (k) (by omega)).2, he12, (ha16 (k + 1) (by omega)).1]
  have hlo : ∀ i : Nat, i < k → ad i = ad0 i ∧ G i = G0 i := fun i hi => ⟨((ha16 (i) (by omega))).1.trans (hlo i hi).1, ((ha16 (i) (by omega))).2.trans (hlo i hi).2⟩
  have hak : ad k = ad0 k := ((ha16 (k) (by omega))).1.trans hak
  have px9 : kDv cI ad G (k + 1) := px9.mv (fun i h1 h2 => ha16 i (by omega))
  have hP : va_P D vwCl (pw (k + 5) ad G) H := by rw [show k + 5 = k + 4 + 1 by omega]; exact hP
  have hD : va_D A (pw (k + 5) ad G) := by rw [show k + 5 = k + 4 + 1 by omega]; exact hD
  refine lv_dup hx hb dX0_init_19 rfl ?_
  refine lv_aload_n hx hb dX0_init_20 rfl (lv_at hl 0 rfl) ?_
  refine va_get (D := D) (ci := 0) (v := .ref (ad (k + 1))) (C := RX0) (T := TX0) (N := 9) hx hb hts hin0 hown hK hP (k) (pw_at (by omega) (k16_0)) rfl 0 (by decide) q_f_RX0_12_Arithmetic_division_LDivision (fun _ h9 => h9) rfl dX0_init_21 ?_
  refine zc_Kv (As := [.ref (ad (k + 1))]) (rest := [.ref (ad (k + 4)), .ref (ad (k))]) ⟨hx, hb, hml, hown, hts⟩ (k_eu l D cI cJ cE cF cR (_) (k + 4) ad G (by omega) (k + 1) (by omega) (hn16)) (cwI 1 hts gX0_init_X5_init rfl rfl rfl q_initialized_RX5 q_methodLink_RX0_20_yX5_init q_instanceMethod_yX5_init rfl (by decide +kernel) ⟨Nat.le_of_ble_eq_true rfl, Nat.le_of_ble_eq_true rfl⟩) hN hAO hK hP hD hS hA rfl hl.1 (Nat.le_of_ble_eq_true rfl) dX0_init_24 ⟨by show _ ≤ 26; omega, by show _ ≤ 1283; omega⟩ (fun ad G H locs ha24 hao24 px24 hP hD hS => ?_)
  have hl : lv_has ls 1 [(0, .ref (ad (k)))] := by rw [(ha24 (k) (by omega)).1]; exact hl
  refine zk_st [.ref (ad (k + 4)), .ref (ad (k))] (by rw [(ha24 (k) (by omega)).1, hao24]) ?_
  have k24_0 : G (k) = .inr (0, [.ref (ad (k + 1)), .null, .null, .null, .null, .null, .null, .null, .null]) := by rw [(ha24 (k) (by omega)).2, k16_0, (ha24 (k + 1) (by omega)).1]
  have hlo : ∀ i : Nat, i < k → ad i = ad0 i ∧ G i = G0 i := fun i hi => ⟨((ha24 (i) (by omega))).1.trans (hlo i hi).1, ((ha24 (i) (by omega))).2.trans (hlo i hi).2⟩
  have hak : ad k = ad0 k := ((ha24 (k) (by omega))).1.trans hak
  have px9 : kDv cI ad G (k + 1) := px9.mv (fun i h1 h2 => ha24 i (by omega))
  have hP : va_P D vwCl (pw (k + 13) ad G) H := by rw [show k + 13 = k + 4 + 9 by omega]; exact hP
  have hD : va_D A (pw (k + 13) ad G) := by rw [show k + 13 = k + 4 + 9 by omega]; exact hD
  have px24 : kEu cI ad G (k + 1) (k + 4) := px24
  refine va_putF (D := D) (ci := 0) (v := .ref (ad (k + 4))) (ty := tyX0 1) (C := RX0) (T := TX0) (N := 9) hx hb hts hin0 tyX0 tyX0_ok nmX0 hown hK hP hD hS (k) (pw_at (by omega) (k24_0)) rfl 1 (by decide) q_f_RX0_23_Arithmetic_euclid_LEuclid (fun _ h9 => h9) rfl hnm rfl (tyX0_ok 1 (by decide)) rfl rfl (Nat.le_of_ble_eq_true rfl) dX0_init_27 (fun H locs hP hD hS => ?_)
  rw [pw_set] at hP hD
  obtain ⟨G_27, hg27⟩ : ∃ g : Nat → va_E, g = zu G (k) (.inr (0, [.ref (ad (k + 1)), .ref (ad (k + 4)), .null, .null, .null, .null, .null, .null, .null])) := ⟨_, rfl⟩
  have hP : va_P D vwCl (pw (k + 13) ad G_27) H := by rw [hg27]; exact hP
  have hD : va_D A (pw (k + 13) ad G_27) := by rw [hg27]; exact hD
  have ho27 : ∀ i8 : Nat, i8 ≠ k → G_27 i8 = G i8 := fun i8 hk => by rw [hg27]; exact zu_n _ _ hk
  have he27 : G_27 (k) = .inr (0, [.ref (ad (k + 1)), .ref (ad (k + 4)), .null, .null, .null, .null, .null, .null, .null]) := by rw [hg27]; exact zu_s _ _ _
  have hlo : ∀ i : Nat, i < k → ad i = ad0 i ∧ G_27 i = G0 i := fun i hi => ⟨((show ad (i) = ad (i) ∧ G_27 (i) = G (i) from ⟨rfl, ho27 (i) (by omega)⟩)).1.trans (hlo i hi).1, ((show ad (i) = ad (i) ∧ G_27 (i) = G (i) from ⟨rfl, ho27 (i) (by omega)⟩)).2.trans (hlo i hi).2⟩
  have px9 : kDv cI ad G_27 (k + 1) := px9.mv (fun i h1 h2 => ⟨rfl, ho27 i (by omega)⟩)
  have px24 : kEu cI ad G_27 (k + 1) (k + 4) := px24.mv ((show ad (k + 1) = ad (k + 1) ∧ G_27 (k + 1) = G (k + 1) from ⟨rfl, ho27 (k + 1) (by omega)⟩)).1 (fun i h1 h2 => ⟨rfl, ho27 i (by omega)⟩)
  refine lv_aload_n hx hb dX0_init_30 rfl (lv_at hl 0 rfl) ?_
  refine zk_new (D := D) (C := RX9) (T := TX9) (N := 2) (ci := 9) hx hb hts hin9 tyX9 tyX9_ok hown q_classLink_RX0_27_RX9 q_instantiable_RX9_2 q_initialized_RX9 hK hP hD hS hA rfl [.null, .int (iZ (0))] (hfX9) (by show _ ≤ 26; omega) (by show _ ≤ 1283; omega) dX0_init_31 (fun ad G H ha31 hn31 hP hD hS => ?_)
  have hl : lv_has ls 1 [(0, .ref (ad (k)))] := by rw [(ha31 (k) (by omega)).1]; exact hl
  refine zk_st [.ref (ad (k + 13)), .ref (ad (k))] (by rw [(ha31 (k) (by omega)).1]) ?_
  have k31_0 : G (k) = .inr (0, [.ref (ad (k + 1)), .ref (ad (k + 4)), .null, .null, .null, .null, .null, .null, .null]) := by rw [(ha31 (k) (by omega)).2, he27, (ha31 (k + 1) (by omega)).1, (ha31 (k + 4) (by omega)).1]
  have hlo : ∀ i : Nat, i < k → ad i = ad0 i ∧ G i = G0 i := fun i hi => ⟨((ha31 (i) (by omega))).1.trans (hlo i hi).1, ((ha31 (i) (by omega))).2.trans (hlo i hi).2⟩
  have hak : ad k = ad0 k := ((ha31 (k) (by omega))).1.trans hak
  have px9 : kDv cI ad G (k + 1) := px9.mv (fun i h1 h2 => ha31 i (by omega))
  have px24 : kEu cI ad G (k + 1) (k + 4) := px24.mv ((ha31 (k + 1) (by omega))).1 (fun i h1 h2 => ha31 i (by omega))
  have hP : va_P D vwCl (pw (k + 14) ad G) H := by rw [show k + 14 = k + 13 + 1 by omega]; exact hP
  have hD : va_D A (pw (k + 14) ad G) := by rw [show k + 14 = k + 13 + 1 by omega]; exact hD
  refine lv_dup hx hb dX0_init_34 rfl ?_
  refine lv_bipush (v := iZ 96) hx hb dX0_init_35 (by decide) ?_
  refine zc_Kv (As := [.int (iZ (96))]) (rest := [.ref (ad (k + 13)), .ref (ad (k))]) ⟨hx, hb, hml, hown, hts⟩ (k_whole l D cI cJ cE cF cR (_) (k + 13) ad G (by omega) (96) (by omega) (by omega) (hn31)) (cwI 1 hts gX0_init_X9_init rfl rfl rfl q_initialized_RX9 q_methodLink_RX0_29_yX9_init q_instanceMethod_yX9_init rfl (by decide +kernel) ⟨Nat.le_of_ble_eq_true rfl, Nat.le_of_ble_eq_true rfl⟩) hN hAO hK hP hD hS hA rfl hl.1 (Nat.le_of_ble_eq_true rfl) dX0_init_37 ⟨by show _ ≤ 26; omega, by show _ ≤ 1283; omega⟩ (fun ad G H locs ha37 hao37 pw37 hP hD hS => ?_)
  have hl : lv_has ls 1 [(0, .ref (ad (k)))] := by rw [(ha37 (k) (by omega)).1]; exact hl
  refine zk_st [.ref (ad (k + 13)), .ref (ad (k))] (by rw [(ha37 (k) (by omega)).1, hao37]) ?_
  have k37_0 : G (k) = .inr (0, [.ref (ad (k + 1)), .ref (ad (k + 4)), .null, .null, .null, .null, .null, .null, .null]) := by rw [(ha37 (k) (by omega)).2, k31_0, (ha37 (k + 1) (by omega)).1, (ha37 (k + 4) (by omega)).1]
  have hlo : ∀ i : Nat, i < k → ad i = ad0 i ∧ G i = G0 i := fun i hi => ⟨((ha37 (i) (by omega))).1.trans (hlo i hi).1, ((ha37 (i) (by omega))).2.trans (hlo i hi).2⟩
  have hak : ad k = ad0 k := ((ha37 (k) (by omega))).1.trans hak
  have px9 : kDv cI ad G (k + 1) := px9.mv (fun i h1 h2 => ha37 i (by omega))
  have px24 : kEu cI ad G (k + 1) (k + 4) := px24.mv ((ha37 (k + 1) (by omega))).1 (fun i h1 h2 => ha37 i (by omega))
  have hP : va_P D vwCl (pw (k + 15) ad G) H := by rw [show k + 15 = k + 13 + 2 by omega]; exact hP
  have hD : va_D A (pw (k + 15) ad G) := by rw [show k + 15 = k + 13 + 2 by omega]; exact hD
  have pw37 : pHas cI ad G (k + 13) (96) := pw37
  refine va_putF (D := D) (ci := 0) (v := .ref (ad (k + 13))) (ty := tyX0 2) (C := RX0) (T := TX0) (N := 9) hx hb hts hin0 tyX0 tyX0_ok nmX0 hown hK hP hD hS (k) (pw_at (by omega) (k37_0)) rfl 2 (by decide) q_f_RX0_32_Arithmetic_rest_LWhole (fun _ h9 => h9) rfl hnm rfl (tyX0_ok 2 (by decide)) rfl rfl (Nat.le_of_ble_eq_true rfl) dX0_init_40 (fun H locs hP hD hS => ?_)
  rw [pw_set] at hP hD
  obtain ⟨G_40, hg40⟩ : ∃ g : Nat → va_E, g = zu G (k) (.inr (0, [.ref (ad (k + 1)), .ref (ad (k + 4)), .ref (ad (k + 13)), .null, .null, .null, .null, .null, .null])) := ⟨_, rfl⟩
  have hP : va_P D vwCl (pw (k + 15) ad G_40) H := by rw [hg40]; exact hP
  have hD : va_D A (pw (k + 15) ad G_40) := by rw [hg40]; exact hD
  have ho40 : ∀ i8 : Nat, i8 ≠ k → G_40 i8 = G i8 := fun i8 hk => by rw [hg40]; exact zu_n _ _ hk
  have he40 : G_40 (k) = .inr (0, [.ref (ad (k + 1)), .ref (ad (k + 4)), .ref (ad (k + 13)), .null, .null, .null, .null, .null, .null]) := by rw [hg40]; exact zu_s _ _ _
  have hlo : ∀ i : Nat, i < k → ad i = ad0 i ∧ G_40 i = G0 i := fun i hi => ⟨((show ad (i) = ad (i) ∧ G_40 (i) = G (i) from ⟨rfl, ho40 (i) (by omega)⟩)).1.trans (hlo i hi).1, ((show ad (i) = ad (i) ∧ G_40 (i) = G (i) from ⟨rfl, ho40 (i) (by omega)⟩)).2.trans (hlo i hi).2⟩
  have px9 : kDv cI ad G_40 (k + 1) := px9.mv (fun i h1 h2 => ⟨rfl, ho40 i (by omega)⟩)
  have px24 : kEu cI ad G_40 (k + 1) (k + 4) := px24.mv ((show ad (k + 1) = ad (k + 1) ∧ G_40 (k + 1) = G (k + 1) from ⟨rfl, ho40 (k + 1) (by omega)⟩)).1 (fun i h1 h2 => ⟨rfl, ho40 i (by omega)⟩)
  have pw37 : pHas cI ad G_40 (k + 13) (96) := pw37.mv (fun i h1 h2 => ⟨rfl, ho40 i (by omega)⟩)
  refine lv_aload_n hx hb dX0_init_43 rfl (lv_at hl 0 rfl) ?_
  refine zk_new (D := D) (C := RX9) (T := TX9) (N := 2) (ci := 9) hx hb hts hin9 tyX9 tyX9_ok hown q_classLink_RX0_27_RX9 q_instantiable_RX9_2 q_initialized_RX9 hK hP hD hS hA rfl [.null, .int (iZ (0))] (hfX9) (by show _ ≤ 26; omega) (by show _ ≤ 1283; omega) dX0_init_44 (fun ad G H ha44 hn44 hP hD hS => ?_)
  have hl : lv_has ls 1 [(0, .ref (ad (k)))] := by rw [(ha44 (k) (by omega)).1]; exact hl
  refine zk_st [.ref (ad (k + 15)), .ref (ad (k))] (by rw [(ha44 (k) (by omega)).1]) ?_
  have k44_0 : G (k) = .inr (0, [.ref (ad (k + 1)), .ref (ad (k + 4)), .ref (ad (k + 13)), .null, .null, .null, .null, .null, .null]) := by rw [(ha44 (k) (by omega)).2, he40, (ha44 (k + 1) (by omega)).1, (ha44 (k + 13) (by omega)).1, (ha44 (k + 4) (by omega)).1]
  have hlo : ∀ i : Nat, i < k → ad i = ad0 i ∧ G i = G0 i := fun i hi => ⟨((ha44 (i) (by omega))).1.trans (hlo i hi).1, ((ha44 (i) (by omega))).2.trans (hlo i hi).2⟩
  have hak : ad k = ad0 k := ((ha44 (k) (by omega))).1.trans hak
  have px9 : kDv cI ad G (k + 1) := px9.mv (fun i h1 h2 => ha44 i (by omega))
  have px24 : kEu cI ad G (k + 1) (k + 4) := px24.mv ((ha44 (k + 1) (by omega))).1 (fun i h1 h2 => ha44 i (by omega))
  have pw37 : pHas cI ad G (k + 13) (96) := pw37.mv (fun i h1 h2 => ha44 i (by omega))
  have hP : va_P D vwCl (pw (k + 16) ad G) H := by rw [show k + 16 = k + 15 + 1 by omega]; exact hP
  have hD : va_D A (pw (k + 16) ad G) := by rw [show k + 16 = k + 15 + 1 by omega]; exact hD
  refine lv_dup hx hb dX0_init_47 rfl ?_
  refine lv_bipush (v := iZ 96) hx hb dX0_init_48 (by decide) ?_
  refine zc_Kv (As := [.int (iZ (96))]) (rest := [.ref (ad (k + 15)), .ref (ad (k))]) ⟨hx, hb, hml, hown, hts⟩ (k_whole l D cI cJ cE cF cR (_) (k + 15) ad G (by omega) (96) (by omega) (by omega) (hn44)) (cwI 1 hts gX0_init_X9_init rfl rfl rfl q_initialized_RX9 q_methodLink_RX0_29_yX9_init q_instanceMethod_yX9_init rfl (by decide +kernel) ⟨Nat.le_of_ble_eq_true rfl, Nat.le_of_ble_eq_true rfl⟩) hN hAO hK hP hD hS hA rfl hl.1 (Nat.le_of_ble_eq_true rfl) dX0_init_50 ⟨by show _ ≤ 26; omega, by show _ ≤ 1283; omega⟩ (fun ad G H locs ha50 hao50 pw50 hP hD hS => ?_)
  have hl : lv_has ls 1 [(0, .ref (ad (k)))] := by rw [(ha50 (k) (by omega)).1]; exact hl
  refine zk_st [.ref (ad (k + 15)), .ref (ad (k))] (by rw [(ha50 (k) (by omega)).1, hao50]) ?_
  have k50_0 : G (k) = .inr (0, [.ref (ad (k + 1)), .ref (ad (k + 4)), .ref (ad (k + 13)), .null, .null, .null, .null, .null, .null]) := by rw [(ha50 (k) (by omega)).2, k44_0, (ha50 (k + 1) (by omega)).1, (ha50 (k + 13) (by omega)).1, (ha50 (k + 4) (by omega)).1]
  have hlo : ∀ i : Nat, i < k → ad i = ad0 i ∧ G i = G0 i := fun i hi => ⟨((ha50 (i) (by omega))).1.trans (hlo i hi).1, ((ha50 (i) (by omega))).2.trans (hlo i hi).2⟩
  have hak : ad k = ad0 k := ((ha50 (k) (by omega))).1.trans hak
  have px9 : kDv cI ad G (k + 1) := px9.mv (fun i h1 h2 => ha50 i (by omega))
  have px24 : kEu cI ad G (k + 1) (k + 4) := px24.mv ((ha50 (k + 1) (by omega))).1 (fun i h1 h2 => ha50 i (by omega))
  have pw37 : pHas cI ad G (k + 13) (96) := pw37.mv (fun i h1 h2 => ha50 i (by omega))
  have hP : va_P D vwCl (pw (k + 17) ad G) H := by rw [show k + 17 = k + 15 + 2 by omega]; exact hP
  have hD : va_D A (pw (k + 17) ad G) := by rw [show k + 17 = k + 15 + 2 by omega]; exact hD
  have pw50 : pHas cI ad G (k + 15) (96) := pw50
  refine va_putF (D := D) (ci := 0) (v := .ref (ad (k + 15))) (ty := tyX0 3) (C := RX0) (T := TX0) (N := 9) hx hb hts hin0 tyX0 tyX0_ok nmX0 hown hK hP hD hS (k) (pw_at (by omega) (k50_0)) rfl 3 (by decide) q_f_RX0_36_Arithmetic_part_LWhole (fun _ h9 => h9) rfl hnm rfl (tyX0_ok 3 (by decide)) rfl rfl (Nat.le_of_ble_eq_true rfl) dX0_init_53 (fun H locs hP hD hS => ?_)
  rw [pw_set] at hP hD
  obtain ⟨G_53, hg53⟩ : ∃ g : Nat → va_E, g = zu G (k) (.inr (0, [.ref (ad (k + 1)), .ref (ad (k + 4)), .ref (ad (k + 13)), .ref (ad (k + 15)), .null, .null, .null, .null, .null])) := ⟨_, rfl⟩
  have hP : va_P D vwCl (pw (k + 17) ad G_53) H := by rw [hg53]; exact hP
  have hD : va_D A (pw (k + 17) ad G_53) := by rw [hg53]; exact hD
  have ho53 : ∀ i8 : Nat, i8 ≠ k → G_53 i8 = G i8 := fun i8 hk => by rw [hg53]; exact zu_n _ _ hk
  have he53 : G_53 (k) = .inr (0, [.ref (ad (k + 1)), .ref (ad (k + 4)), .ref (ad (k + 13)), .ref (ad (k + 15)), .null, .null, .null, .null, .null]) := by rw [hg53]; exact zu_s _ _ _
  have hlo : ∀ i : Nat, i < k → ad i = ad0 i ∧ G_53 i = G0 i := fun i hi => ⟨((show ad (i) = ad (i) ∧ G_53 (i) = G (i) from ⟨rfl, ho53 (i) (by omega)⟩)).1.trans (hlo i hi).1, ((show ad (i) = ad (i) ∧ G_53 (i) = G (i) from ⟨rfl, ho53 (i) (by omega)⟩)).2.trans (hlo i hi).2⟩
  have px9 : kDv cI ad G_53 (k + 1) := px9.mv (fun i h1 h2 => ⟨rfl, ho53 i (by omega)⟩)
  have px24 : kEu cI ad G_53 (k + 1) (k + 4) := px24.mv ((show ad (k + 1) = ad (k + 1) ∧ G_53 (k + 1) = G (k + 1) from ⟨rfl, ho53 (k + 1) (by omega)⟩)).1 (fun i h1 h2 => ⟨rfl, ho53 i (by omega)⟩)
  have pw37 : pHas cI ad G_53 (k + 13) (96) := pw37.mv (fun i h1 h2 => ⟨rfl, ho53 i (by omega)⟩)
  have pw50 : pHas cI ad G_53 (k + 15) (96) := pw50.mv (fun i h1 h2 => ⟨rfl, ho53 i (by omega)⟩)
  refine lv_aload_n hx hb dX0_init_56 rfl (lv_at hl 0 rfl) ?_
  refine zk_new (D := D) (C := RX9) (T := TX9) (N := 2) (ci := 9) hx hb hts hin9 tyX9 tyX9_ok hown q_classLink_RX0_27_RX9 q_instantiable_RX9_2 q_initialized_RX9 hK hP hD hS hA rfl [.null, .int (iZ (0))] (hfX9) (by show _ ≤ 26; omega) (by show _ ≤ 1283; omega) dX0_init_57 (fun ad G H ha57 hn57 hP hD hS => ?_)
  have hl : lv_has ls 1 [(0, .ref (ad (k)))] := by rw [(ha57 (k) (by omega)).1]; exact hl
  refine zk_st [.ref (ad (k + 17)), .ref (ad (k))] (by rw [(ha57 (k) (by omega)).1]) ?_
  have k57_0 : G (k) = .inr (0, [.ref (ad (k + 1)), .ref (ad (k + 4)), .ref (ad (k + 13)), .ref (ad (k + 15)), .null, .null, .null, .null, .null]) := by rw [(ha57 (k) (by omega)).2, he53, (ha57 (k + 1) (by omega)).1, (ha57 (k + 13) (by omega)).1, (ha57 (k + 15) (by omega)).1, (ha57 (k + 4) (by omega)).1]
  have hlo : ∀ i : Nat, i < k → ad i = ad0 i ∧ G i = G0 i := fun i hi => ⟨((ha57 (i) (by omega))).1.trans (hlo i hi).1, ((ha57 (i) (by omega))).2.trans (hlo i hi).2⟩
  have hak : ad k = ad0 k := ((ha57 (k) (by omega))).1.trans hak
  have px9 : kDv cI ad G (k + 1) := px9.mv (fun i h1 h2 => ha57 i (by omega))
  have px24 : kEu cI ad G (k + 1) (k + 4) := px24.mv ((ha57 (k + 1) (by omega))).1 (fun i h1 h2 => ha57 i (by omega))
  have pw37 : pHas cI ad G (k + 13) (96) := pw37.mv (fun i h1 h2 => ha57 i (by omega))
  have pw50 : pHas cI ad G (k + 15) (96) := pw50.mv (fun i h1 h2 => ha57 i (by omega))
  have hP : va_P D vwCl (pw (k + 18) ad G) H := by rw [show k + 18 = k + 17 + 1 by omega]; exact hP
  have hD : va_D A (pw (k + 18) ad G) := by rw [show k + 18 = k + 17 + 1 by omega]; exact hD
  refine lv_dup hx hb dX0_init_60 rfl ?_
  refine lv_bipush (v := iZ 96) hx hb dX0_init_61 (by decide) ?_
  refine zc_Kv (As := [.int (iZ (96))]) (rest := [.ref (ad (k + 17)), .ref (ad (k))]) ⟨hx, hb, hml, hown, hts⟩ (k_whole l D cI cJ cE cF cR (_) (k + 17) ad G (by omega) (96) (by omega) (by omega) (hn57)) (cwI 1 hts gX0_init_X9_init rfl rfl rfl q_initialized_RX9 q_methodLink_RX0_29_yX9_init q_instanceMethod_yX9_init rfl (by decide +kernel) ⟨Nat.le_of_ble_eq_true rfl, Nat.le_of_ble_eq_true rfl⟩) hN hAO hK hP hD hS hA rfl hl.1 (Nat.le_of_ble_eq_true rfl) dX0_init_63 ⟨by show _ ≤ 26; omega, by show _ ≤ 1283; omega⟩ (fun ad G H locs ha63 hao63 pw63 hP hD hS => ?_)
  have hl : lv_has ls 1 [(0, .ref (ad (k)))] := by rw [(ha63 (k) (by omega)).1]; exact hl
  refine zk_st [.ref (ad (k + 17)), .ref (ad (k))] (by rw [(ha63 (k) (by omega)).1, hao63]) ?_
  have k63_0 : G (k) = .inr (0, [.ref (ad (k + 1)), .ref (ad (k + 4)), .ref (ad (k + 13)), .ref (ad (k + 15)), .null, .null, .null, .null, .null]) := by rw [(ha63 (k) (by omega)).2, k57_0, (ha63 (k + 1) (by omega)).1, (ha63 (k + 13) (by omega)).1, (ha63 (k + 15) (by omega)).1, (ha63 (k + 4) (by omega)).1]
  have hlo : ∀ i : Nat, i < k → ad i = ad0 i ∧ G i = G0 i := fun i hi => ⟨((ha63 (i) (by omega))).1.trans (hlo i hi).1, ((ha63 (i) (by omega))).2.trans (hlo i hi).2⟩
  have hak : ad k = ad0 k := ((ha63 (k) (by omega))).1.trans hak
  have px9 : kDv cI ad G (k + 1) := px9.mv (fun i h1 h2 => ha63 i (by omega))
  have px24 : kEu cI ad G (k + 1) (k + 4) := px24.mv ((ha63 (k + 1) (by omega))).1 (fun i h1 h2 => ha63 i (by omega))
  have pw37 : pHas cI ad G (k + 13) (96) := pw37.mv (fun i h1 h2 => ha63 i (by omega))
  have pw50 : pHas cI ad G (k + 15) (96) := pw50.mv (fun i h1 h2 => ha63 i (by omega))
  have hP : va_P D vwCl (pw (k + 19) ad G) H := by rw [show k + 19 = k + 17 + 2 by omega]; exact hP
  have hD : va_D A (pw (k + 19) ad G) := by rw [show k + 19 = k + 17 + 2 by omega]; exact hD
  have pw63 : pHas cI ad G (k + 17) (96) := pw63
  refine va_putF (D := D) (ci := 0) (v := .ref (ad (k + 17))) (ty := tyX0 4) (C := RX0) (T := TX0) (N := 9) hx hb hts hin0 tyX0 tyX0_ok nmX0 hown hK hP hD hS (k) (pw_at (by omega) (k63_0)) rfl 4 (by decide) q_f_RX0_39_Arithmetic_product_LWhole (fun _ h9 => h9) rfl hnm rfl (tyX0_ok 4 (by decide)) rfl rfl (Nat.le_of_ble_eq_true rfl) dX0_init_66 (fun H locs hP hD hS => ?_)
  rw [pw_set] at hP hD
  obtain ⟨G_66, hg66⟩ : ∃ g : Nat → va_E, g = zu G (k) (.inr (0, [.ref (ad (k + 1)), .ref (ad (k + 4)), .ref (ad (k + 13)), .ref (ad (k + 15)), .ref (ad (k + 17)), .null, .null, .null, .null])) := ⟨_, rfl⟩
  have hP : va_P D vwCl (pw (k + 19) ad G_66) H := by rw [hg66]; exact hP
  have hD : va_D A (pw (k + 19) ad G_66) := by rw [hg66]; exact hD
  have ho66 : ∀ i8 : Nat, i8 ≠ k → G_66 i8 = G i8 := fun i8 hk => by rw [hg66]; exact zu_n _ _ hk
  have he66 : G_66 (k) = .inr (0, [.ref (ad (k + 1)), .ref (ad (k + 4)), .ref (ad (k + 13)), .ref (ad (k + 15)), .ref (ad (k + 17)), .null, .null, .null, .null]) := by rw [hg66]; exact zu_s _ _ _
  have hlo : ∀ i : Nat, i < k → ad i = ad0 i ∧ G_66 i = G0 i := fun i hi => ⟨((show ad (i) = ad (i) ∧ G_66 (i) = G (i) from ⟨rfl, ho66 (i) (by omega)⟩)).1.trans (hlo i hi).1, ((show ad (i) = ad (i) ∧ G_66 (i) = G (i) from ⟨rfl, ho66 (i) (by omega)⟩)).2.trans (hlo i hi).2⟩
  have px9 : kDv cI ad G_66 (k + 1) := px9.mv (fun i h1 h2 => ⟨rfl, ho66 i (by omega)⟩)
  have px24 : kEu cI ad G_66 (k + 1) (k + 4) := px24.mv ((show ad (k + 1) = ad (k + 1) ∧ G_66 (k + 1) = G (k + 1) from ⟨rfl, ho66 (k + 1) (by omega)⟩)).1 (fun i h1 h2 => ⟨rfl, ho66 i (by omega)⟩)
  have pw37 : pHas cI ad G_66 (k + 13) (96) := pw37.mv (fun i h1 h2 => ⟨rfl, ho66 i (by omega)⟩)
  have pw50 : pHas cI ad G_66 (k + 15) (96) := pw50.mv (fun i h1 h2 => ⟨rfl, ho66 i (by omega)⟩)
  have pw63 : pHas cI ad G_66 (k + 17) (96) := pw63.mv (fun i h1 h2 => ⟨rfl, ho66 i (by omega)⟩)
  refine lv_aload_n hx hb dX0_init_69 rfl (lv_at hl 0 rfl) ?_
  refine zk_new (D := D) (C := RX9) (T := TX9) (N := 2) (ci := 9) hx hb hts hin9 tyX9 tyX9_ok hown q_classLink_RX0_27_RX9 q_instantiable_RX9_2 q_initialized_RX9 hK hP hD hS hA rfl [.null, .int (iZ (0))] (hfX9) (by show _ ≤ 26; omega) (by show _ ≤ 1283; omega) dX0_init_70 (fun ad G H ha70 hn70 hP hD hS => ?_)
  have hl : lv_has ls 1 [(0, .ref (ad (k)))] := by rw [(ha70 (k) (by omega)).1]; exact hl
  refine zk_st [.ref (ad (k + 19)), .ref (ad (k))] (by rw [(ha70 (k) (by omega)).1]) ?_
  have k70_0 : G (k) = .inr (0, [.ref (ad (k + 1)), .ref (ad (k + 4)), .ref (ad (k + 13)), .ref (ad (k + 15)), .ref (ad (k + 17)), .null, .null, .null, .null]) := by rw [(ha70 (k) (by omega)).2, he66, (ha70 (k + 1) (by omega)).1, (ha70 (k + 13) (by omega)).1, (ha70 (k + 15) (by omega)).1, (ha70 (k + 17) (by omega)).1, (ha70 (k + 4) (by omega)).1]
  have hlo : ∀ i : Nat, i < k → ad i = ad0 i ∧ G i = G0 i := fun i hi => ⟨((ha70 (i) (by omega))).1.trans (hlo i hi).1, ((ha70 (i) (by omega))).2.trans (hlo i hi).2⟩
  have hak : ad k = ad0 k := ((ha70 (k) (by omega))).1.trans hak
  have px9 : kDv cI ad G (k + 1) := px9.mv (fun i h1 h2 => ha70 i (by omega))
  have px24 : kEu cI ad G (k + 1) (k + 4) := px24.mv ((ha70 (k + 1) (by omega))).1 (fun i h1 h2 => ha70 i (by omega))
  have pw37 : pHas cI ad G (k + 13) (96) := pw37.mv (fun i h1 h2 => ha70 i (by omega))
  have pw50 : pHas cI ad G (k + 15) (96) := pw50.mv (fun i h1 h2 => ha70 i (by omega))
  have pw63 : pHas cI ad G (k + 17) (96) := pw63.mv (fun i h1 h2 => ha70 i (by omega))
  have hP : va_P D vwCl (pw (k + 20) ad G) H := by rw [show k + 20 = k + 19 + 1 by omega]; exact hP
  have hD : va_D A (pw (k + 20) ad G) := by rw [show k + 20 = k + 19 + 1 by omega]; exact hD
  refine lv_dup hx hb dX0_init_73 rfl ?_
  refine lv_bipush (v := iZ 96) hx hb dX0_init_74 (by decide) ?_
  refine zc_Kv (As := [.int (iZ (96))]) (rest := [.ref (ad (k + 19)), .ref (ad (k))]) ⟨hx, hb, hml, hown, hts⟩ (k_whole l D cI cJ cE cF cR (_) (k + 19) ad G (by omega) (96) (by omega) (by omega) (hn70)) (cwI 1 hts gX0_init_X9_init rfl rfl rfl q_initialized_RX9 q_methodLink_RX0_29_yX9_init q_instanceMethod_yX9_init rfl (by decide +kernel) ⟨Nat.le_of_ble_eq_true rfl, Nat.le_of_ble_eq_true rfl⟩) hN hAO hK hP hD hS hA rfl hl.1 (Nat.le_of_ble_eq_true rfl) dX0_init_76 ⟨by show _ ≤ 26; omega, by show _ ≤ 1283; omega⟩ (fun ad G H locs ha76 hao76 pw76 hP hD hS => ?_)
  have hl : lv_has ls 1 [(0, .ref (ad (k)))] := by rw [(ha76 (k) (by omega)).1]; exact hl
  refine zk_st [.ref (ad (k + 19)), .ref (ad (k))] (by rw [(ha76 (k) (by omega)).1, hao76]) ?_
  have k76_0 : G (k) = .inr (0, [.ref (ad (k + 1)), .ref (ad (k + 4)), .ref (ad (k + 13)), .ref (ad (k + 15)), .ref (ad (k + 17)), .null, .null, .null, .null]) := by rw [(ha76 (k) (by omega)).2, k70_0, (ha76 (k + 1) (by omega)).1, (ha76 (k + 13) (by omega)).1, (ha76 (k + 15) (by omega)).1, (ha76 (k + 17) (by omega)).1, (ha76 (k + 4) (by omega)).1]
  have hlo : ∀ i : Nat, i < k → ad i = ad0 i ∧ G i = G0 i := fun i hi => ⟨((ha76 (i) (by omega))).1.trans (hlo i hi).1, ((ha76 (i) (by omega))).2.trans (hlo i hi).2⟩
  have hak : ad k = ad0 k := ((ha76 (k) (by omega))).1.trans hak
  have px9 : kDv cI ad G (k + 1) := px9.mv (fun i h1 h2 => ha76 i (by omega))
  have px24 : kEu cI ad G (k + 1) (k + 4) := px24.mv ((ha76 (k + 1) (by omega))).1 (fun i h1 h2 => ha76 i (by omega))
  have pw37 : pHas cI ad G (k + 13) (96) := pw37.mv (fun i h1 h2 => ha76 i (by omega))
  have pw50 : pHas cI ad G (k + 15) (96) := pw50.mv (fun i h1 h2 => ha76 i (by omega))
  have pw63 : pHas cI ad G (k + 17) (96) := pw63.mv (fun i h1 h2 => ha76 i (by omega))
  have hP : va_P D vwCl (pw (k + 21) ad G) H := by rw [show k + 21 = k + 19 + 2 by omega]; exact hP
  have hD : va_D A (pw (k + 21) ad G) := by rw [show k + 21 = k + 19 + 2 by omega]; exact hD
  have pw76 : pHas cI ad G (k + 19) (96) := pw76
  refine va_putF (D := D) (ci := 0) (v := .ref (ad (k + 19))) (ty := tyX0 5) (C := RX0) (T := TX0) (N := 9) hx hb hts hin0 tyX0 tyX0_ok nmX0 hown hK hP hD hS (k) (pw_at (by omega) (k76_0)) rfl 5 (by decide) q_f_RX0_42_Arithmetic_firstNum_LWhole (fun _ h9 => h9) rfl hnm rfl (tyX0_ok 5 (by decide)) rfl rfl (Nat.le_of_ble_eq_true rfl) dX0_init_79 (fun H locs hP hD hS => ?_)
  rw [pw_set] at hP hD
  obtain ⟨G_79, hg79⟩ : ∃ g : Nat → va_E, g = zu G (k) (.inr (0, [.ref (ad (k + 1)), .ref (ad (k + 4)), .ref (ad (k + 13)), .ref (ad (k + 15)), .ref (ad (k + 17)), .ref (ad (k + 19)), .null, .null, .null])) := ⟨_, rfl⟩
  have hP : va_P D vwCl (pw (k + 21) ad G_79) H := by rw [hg79]; exact hP
  have hD : va_D A (pw (k + 21) ad G_79) := by rw [hg79]; exact hD
  have ho79 : ∀ i8 : Nat, i8 ≠ k → G_79 i8 = G i8 := fun i8 hk => by rw [hg79]; exact zu_n _ _ hk
  have he79 : G_79 (k) = .inr (0, [.ref (ad (k + 1)), .ref (ad (k + 4)), .ref (ad (k + 13)), .ref (ad (k + 15)), .ref (ad (k + 17)), .ref (ad (k + 19)), .null, .null, .null]) := by rw [hg79]; exact zu_s _ _ _
  have hlo : ∀ i : Nat, i < k → ad i = ad0 i ∧ G_79 i = G0 i := fun i hi => ⟨((show ad (i) = ad (i) ∧ G_79 (i) = G (i) from ⟨rfl, ho79 (i) (by omega)⟩)).1.trans (hlo i hi).1, ((show ad (i) = ad (i) ∧ G_79 (i) = G (i) from ⟨rfl, ho79 (i) (by omega)⟩)).2.trans (hlo i hi).2⟩
  have px9 : kDv cI ad G_79 (k + 1) := px9.mv (fun i h1 h2 => ⟨rfl, ho79 i (by omega)⟩)
  have px24 : kEu cI ad G_79 (k + 1) (k + 4) := px24.mv ((show ad (k + 1) = ad (k + 1) ∧ G_79 (k + 1) = G (k + 1) from ⟨rfl, ho79 (k + 1) (by omega)⟩)).1 (fun i h1 h2 => ⟨rfl, ho79 i (by omega)⟩)
  have pw37 : pHas cI ad G_79 (k + 13) (96) := pw37.mv (fun i h1 h2 => ⟨rfl, ho79 i (by omega)⟩)
  have pw50 : pHas cI ad G_79 (k + 15) (96) := pw50.mv (fun i h1 h2 => ⟨rfl, ho79 i (by omega)⟩)
  have pw63 : pHas cI ad G_79 (k + 17) (96) := pw63.mv (fun i h1 h2 => ⟨rfl, ho79 i (by omega)⟩)
  have pw76 : pHas cI ad G_79 (k + 19) (96) := pw76.mv (fun i h1 h2 => ⟨rfl, ho79 i (by omega)⟩)
  refine lv_aload_n hx hb dX0_init_82 rfl (lv_at hl 0 rfl) ?_
  refine zk_new (D := D) (C := RX9) (T := TX9) (N := 2) (ci := 9) hx hb hts hin9 tyX9 tyX9_ok hown q_classLink_RX0_27_RX9 q_instantiable_RX9_2 q_initialized_RX9 hK hP hD hS hA rfl [.null, .int (iZ (0))] (hfX9) (by show _ ≤ 26; omega) (by show _ ≤ 1283; omega) dX0_init_83 (fun ad G H ha83 hn83 hP hD hS => ?_)
  have hl : lv_has ls 1 [(0, .ref (ad (k)))] := by rw [(ha83 (k) (by omega)).1]; exact hl
  refine zk_st [.ref (ad (k + 21)), .ref (ad (k))] (by rw [(ha83 (k) (by omega)).1]) ?_
  have k83_0 : G (k) = .inr (0, [.ref (ad (k + 1)), .ref (ad (k + 4)), .ref (ad (k + 13)), .ref (ad (k + 15)), .ref (ad (k + 17)), .ref (ad (k + 19)), .null, .null, .null]) := by rw [(ha83 (k) (by omega)).2, he79, (ha83 (k + 1) (by omega)).1, (ha83 (k + 13) (by omega)).1, (ha83 (k + 15) (by omega)).1, (ha83 (k + 17) (by omega)).1, (ha83 (k + 19) (by omega)).1, (ha83 (k + 4) (by omega)).1]
  have hlo : ∀ i : Nat, i < k → ad i = ad0 i ∧ G i = G0 i := fun i hi => ⟨((ha83 (i) (by omega))).1.trans (hlo i hi).1, ((ha83 (i) (by omega))).2.trans (hlo i hi).2⟩
  have hak : ad k = ad0 k := ((ha83 (k) (by omega))).1.trans hak
  have px9 : kDv cI ad G (k + 1) := px9.mv (fun i h1 h2 => ha83 i (by omega))
  have px24 : kEu cI ad G (k + 1) (k + 4) := px24.mv ((ha83 (k + 1) (by omega))).1 (fun i h1 h2 => ha83 i (by omega))
  have pw37 : pHas cI ad G (k + 13) (96) := pw37.mv (fun i h1 h2 => ha83 i (by omega))
  have pw50 : pHas cI ad G (k + 15) (96) := pw50.mv (fun i h1 h2 => ha83 i (by omega))
  have pw63 : pHas cI ad G (k + 17) (96) := pw63.mv (fun i h1 h2 => ha83 i (by omega))
  have pw76 : pHas cI ad G (k + 19) (96) := pw76.mv (fun i h1 h2 => ha83 i (by omega))
  have hP : va_P D vwCl (pw (k + 22) ad G) H := by rw [show k + 22 = k + 21 + 1 by omega]; exact hP
  have hD : va_D A (pw (k + 22) ad G) := by rw [show k + 22 = k + 21 + 1 by omega]; exact hD
  refine lv_dup hx hb dX0_init_86 rfl ?_
  refine lv_bipush (v := iZ 96) hx hb dX0_init_87 (by decide) ?_
  refine zc_Kv (As := [.int (iZ (96))]) (rest := [.ref (ad (k + 21)), .ref (ad (k))]) ⟨hx, hb, hml, hown, hts⟩ (k_whole l D cI cJ cE cF cR (_) (k + 21) ad G (by omega) (96) (by omega) (by omega) (hn83)) (cwI 1 hts gX0_init_X9_init rfl rfl rfl q_initialized_RX9 q_methodLink_RX0_29_yX9_init q_instanceMethod_yX9_init rfl (by decide +kernel) ⟨Nat.le_of_ble_eq_true rfl, Nat.le_of_ble_eq_true rfl⟩) hN hAO hK hP hD hS hA rfl hl.1 (Nat.le_of_ble_eq_true rfl) dX0_init_89 ⟨by show _ ≤ 26; omega, by show _ ≤ 1283; omega⟩ (fun ad G H locs ha89 hao89 pw89 hP hD hS => ?_)
  have hl : lv_has ls 1 [(0, .ref (ad (k)))] := by rw [(ha89 (k) (by omega)).1]; exact hl
  refine zk_st [.ref (ad (k + 21)), .ref (ad (k))] (by rw [(ha89 (k) (by omega)).1, hao89]) ?_
  have k89_0 : G (k) = .inr (0, [.ref (ad (k + 1)), .ref (ad (k + 4)), .ref (ad (k + 13)), .ref (ad (k + 15)), .ref (ad (k + 17)), .ref (ad (k + 19)), .null, .null, .null]) := by rw [(ha89 (k) (by omega)).2, k83_0, (ha89 (k + 1) (by omega)).1, (ha89 (k + 13) (by omega)).1, (ha89 (k + 15) (by omega)).1, (ha89 (k + 17) (by omega)).1, (ha89 (k + 19) (by omega)).1, (ha89 (k + 4) (by omega)).1]
  have hlo : ∀ i : Nat, i < k → ad i = ad0 i ∧ G i = G0 i := fun i hi => ⟨((ha89 (i) (by omega))).1.trans (hlo i hi).1, ((ha89 (i) (by omega))).2.trans (hlo i hi).2⟩
  have hak : ad k = ad0 k := ((ha89 (k) (by omega))).1.trans hak
  have px9 : kDv cI ad G (k + 1) := px9.mv (fun i h1 h2 => ha89 i (by omega))
  have px24 : kEu cI ad G (k + 1) (k + 4) := px24.mv ((ha89 (k + 1) (by omega))).1 (fun i h1 h2 => ha89 i (by omega))
  have pw37 : pHas cI ad G (k + 13) (96) := pw37.mv (fun i h1 h2 => ha89 i (by omega))
  have pw50 : pHas cI ad G (k + 15) (96) := pw50.mv (fun i h1 h2 => ha89 i (by omega))
  have pw63 : pHas cI ad G (k + 17) (96) := pw63.mv (fun i h1 h2 => ha89 i (by omega))
  have pw76 : pHas cI ad G (k + 19) (96) := pw76.mv (fun i h1 h2 => ha89 i (by omega))
  have hP : va_P D vwCl (pw (k + 23) ad G) H := by rw [show k + 23 = k + 21 + 2 by omega]; exact hP
  have hD : va_D A (pw (k + 23) ad G) := by rw [show k + 23 = k + 21 + 2 by omega]; exact hD
  have pw89 : pHas cI ad G (k + 21) (96) := pw89
  refine va_putF (D := D) (ci := 0) (v := .ref (ad (k + 21))) (ty := tyX0 6) (C := RX0) (T := TX0) (N := 9) hx hb hts hin0 tyX0 tyX0_ok nmX0 hown hK hP hD hS (k) (pw_at (by omega) (k89_0)) rfl 6 (by decide) q_f_RX0_45_Arithmetic_firstDen_LWhole (fun _ h9 => h9) rfl hnm rfl (tyX0_ok 6 (by decide)) rfl rfl (Nat.le_of_ble_eq_true rfl) dX0_init_92 (fun H locs hP hD hS => ?_)
  rw [pw_set] at hP hD
  obtain ⟨G_92, hg92⟩ : ∃ g : Nat → va_E, g = zu G (k) (.inr (0, [.ref (ad (k + 1)), .ref (ad (k + 4)), .ref (ad (k + 13)), .ref (ad (k + 15)), .ref (ad (k + 17)), .ref (ad (k + 19)), .ref (ad (k + 21)), .null, .null])) := ⟨_, rfl⟩
  have hP : va_P D vwCl (pw (k + 23) ad G_92) H := by rw [hg92]; exact hP
  have hD : va_D A (pw (k + 23) ad G_92) := by rw [hg92]; exact hD
  have ho92 : ∀ i8 : Nat, i8 ≠ k → G_92 i8 = G i8 := fun i8 hk => by rw [hg92]; exact zu_n _ _ hk
  have he92 : G_92 (k) = .inr (0, [.ref (ad (k + 1)), .ref (ad (k + 4)), .ref (ad (k + 13)), .ref (ad (k + 15)), .ref (ad (k + 17)), .ref (ad (k + 19)), .ref (ad (k + 21)), .null, .null]) := by rw [hg92]; exact zu_s _ _ _
  have hlo : ∀ i : Nat, i < k → ad i = ad0 i ∧ G_92 i = G0 i := fun i hi => ⟨((show ad (i) = ad (i) ∧ G_92 (i) = G (i) from ⟨rfl, ho92 (i) (by omega)⟩)).1.trans (hlo i hi).1, ((show ad (i) = ad (i) ∧ G_92 (i) = G (i) from ⟨rfl, ho92 (i) (by omega)⟩)).2.trans (hlo i hi).2⟩
  have px9 : kDv cI ad G_92 (k + 1) := px9.mv (fun i h1 h2 => ⟨rfl, ho92 i (by omega)⟩)
  have px24 : kEu cI ad G_92 (k + 1) (k + 4) := px24.mv ((show ad (k + 1) = ad (k + 1) ∧ G_92 (k + 1) = G (k + 1) from ⟨rfl, ho92 (k + 1) (by omega)⟩)).1 (fun i h1 h2 => ⟨rfl, ho92 i (by omega)⟩)
  have pw37 : pHas cI ad G_92 (k + 13) (96) := pw37.mv (fun i h1 h2 => ⟨rfl, ho92 i (by omega)⟩)
  have pw50 : pHas cI ad G_92 (k + 15) (96) := pw50.mv (fun i h1 h2 => ⟨rfl, ho92 i (by omega)⟩)
  have pw63 : pHas cI ad G_92 (k + 17) (96) := pw63.mv (fun i h1 h2 => ⟨rfl, ho92 i (by omega)⟩)
  have pw76 : pHas cI ad G_92 (k + 19) (96) := pw76.mv (fun i h1 h2 => ⟨rfl, ho92 i (by omega)⟩)
  have pw89 : pHas cI ad G_92 (k + 21) (96) := pw89.mv (fun i h1 h2 => ⟨rfl, ho92 i (by omega)⟩)
  refine lv_aload_n hx hb dX0_init_95 rfl (lv_at hl 0 rfl) ?_
  refine zk_new (D := D) (C := RX9) (T := TX9) (N := 2) (ci := 9) hx hb hts hin9 tyX9 tyX9_ok hown q_classLink_RX0_27_RX9 q_instantiable_RX9_2 q_initialized_RX9 hK hP hD hS hA rfl [.null, .int (iZ (0))] (hfX9) (by show _ ≤ 26; omega) (by show _ ≤ 1283; omega) dX0_init_96 (fun ad G H ha96 hn96 hP hD hS => ?_)
  have hl : lv_has ls 1 [(0, .ref (ad (k)))] := by rw [(ha96 (k) (by omega)).1]; exact hl
  refine zk_st [.ref (ad (k + 23)), .ref (ad (k))] (by rw [(ha96 (k) (by omega)).1]) ?_
  have k96_0 : G (k) = .inr (0, [.ref (ad (k + 1)), .ref (ad (k + 4)), .ref (ad (k + 13)), .ref (ad (k + 15)), .ref (ad (k + 17)), .ref (ad (k + 19)), .ref (ad (k + 21)), .null, .null]) := by rw [(ha96 (k) (by omega)).2, he92, (ha96 (k + 1) (by omega)).1, (ha96 (k + 13) (by omega)).1, (ha96 (k + 15) (by omega)).1, (ha96 (k + 17) (by omega)).1, (ha96 (k + 19) (by omega)).1, (ha96 (k + 21) (by omega)).1, (ha96 (k + 4) (by omega)).1]
  have hlo : ∀ i : Nat, i < k → ad i = ad0 i ∧ G i = G0 i := fun i hi => ⟨((ha96 (i) (by omega))).1.trans (hlo i hi).1, ((ha96 (i) (by omega))).2.trans (hlo i hi).2⟩
  have hak : ad k = ad0 k := ((ha96 (k) (by omega))).1.trans hak
  have px9 : kDv cI ad G (k + 1) := px9.mv (fun i h1 h2 => ha96 i (by omega))
  have px24 : kEu cI ad G (k + 1) (k + 4) := px24.mv ((ha96 (k + 1) (by omega))).1 (fun i h1 h2 => ha96 i (by omega))
  have pw37 : pHas cI ad G (k + 13) (96) := pw37.mv (fun i h1 h2 => ha96 i (by omega))
  have pw50 : pHas cI ad G (k + 15) (96) := pw50.mv (fun i h1 h2 => ha96 i (by omega))
  have pw63 : pHas cI ad G (k + 17) (96) := pw63.mv (fun i h1 h2 => ha96 i (by omega))
  have pw76 : pHas cI ad G (k + 19) (96) := pw76.mv (fun i h1 h2 => ha96 i (by omega))
  have pw89 : pHas cI ad G (k + 21) (96) := pw89.mv (fun i h1 h2 => ha96 i (by omega))
  have hP : va_P D vwCl (pw (k + 24) ad G) H := by rw [show k + 24 = k + 23 + 1 by omega]; exact hP
  have hD : va_D A (pw (k + 24) ad G) := by rw [show k + 24 = k + 23 + 1 by omega]; exact hD
  refine lv_dup hx hb dX0_init_99 rfl ?_
  refine lv_bipush (v := iZ 96) hx hb dX0_init_100 (by decide) ?_
  refine zc_Kv (As := [.int (iZ (96))]) (rest := [.ref (ad (k + 23)), .ref (ad (k))]) ⟨hx, hb, hml, hown, hts⟩ (k_whole l D cI cJ cE cF cR (_) (k + 23) ad G (by omega) (96) (by omega) (by omega) (hn96)) (cwI 1 hts gX0_init_X9_init rfl rfl rfl q_initialized_RX9 q_methodLink_RX0_29_yX9_init q_instanceMethod_yX9_init rfl (by decide +kernel) ⟨Nat.le_of_ble_eq_true rfl, Nat.le_of_ble_eq_true rfl⟩) hN hAO hK hP hD hS hA rfl hl.1 (Nat.le_of_ble_eq_true rfl) dX0_init_102 ⟨by show _ ≤ 26; omega, by show _ ≤ 1283; omega⟩ (fun ad G H locs ha102 hao102 pw102 hP hD hS => ?_)
  have hl : lv_has ls 1 [(0, .ref (ad (k)))] := by rw [(ha102 (k) (by omega)).1]; exact hl
  refine zk_st [.ref (ad (k + 23)), .ref (ad (k))] (by rw [(ha102 (k) (by omega)).1, hao102]) ?_
  have k102_0 : G (k) = .inr (0, [.ref (ad (k + 1)), .ref (ad (k + 4)), .ref (ad (k + 13)), .ref (ad (k + 15)), .ref (ad (k + 17)), .ref (ad (k + 19)), .ref (ad (k + 21)), .null, .null]) := by rw [(ha102 (k) (by omega)).2, k96_0, (ha102 (k + 1) (by omega)).1, (ha102 (k + 13) (by omega)).1, (ha102 (k + 15) (by omega)).1, (ha102 (k + 17) (by omega)).1, (ha102 (k + 19) (by omega)).1, (ha102 (k + 21) (by omega)).1, (ha102 (k + 4) (by omega)).1]
  have hlo : ∀ i : Nat, i < k → ad i = ad0 i ∧ G i = G0 i := fun i hi => ⟨((ha102 (i) (by omega))).1.trans (hlo i hi).1, ((ha102 (i) (by omega))).2.trans (hlo i hi).2⟩
  have hak : ad k = ad0 k := ((ha102 (k) (by omega))).1.trans hak
  have px9 : kDv cI ad G (k + 1) := px9.mv (fun i h1 h2 => ha102 i (by omega))
  have px24 : kEu cI ad G (k + 1) (k + 4) := px24.mv ((ha102 (k + 1) (by omega))).1 (fun i h1 h2 => ha102 i (by omega))
  have pw37 : pHas cI ad G (k + 13) (96) := pw37.mv (fun i h1 h2 => ha102 i (by omega))
  have pw50 : pHas cI ad G (k + 15) (96) := pw50.mv (fun i h1 h2 => ha102 i (by omega))
  have pw63 : pHas cI ad G (k + 17) (96) := pw63.mv (fun i h1 h2 => ha102 i (by omega))
  have pw76 : pHas cI ad G (k + 19) (96) := pw76.mv (fun i h1 h2 => ha102 i (by omega))
  have pw89 : pHas cI ad G (k + 21) (96) := pw89.mv (fun i h1 h2 => ha102 i (by omega))
  have hP : va_P D vwCl (pw (k + 25) ad G) H := by rw [show k + 25 = k + 23 + 2 by omega]; exact hP
  have hD : va_D A (pw (k + 25) ad G) := by rw [show k + 25 = k + 23 + 2 by omega]; exact hD
  have pw102 : pHas cI ad G (k + 23) (96) := pw102
  refine va_putF (D := D) (ci := 0) (v := .ref (ad (k + 23))) (ty := tyX0 7) (C := RX0) (T := TX0) (N := 9) hx hb hts hin0 tyX0 tyX0_ok nmX0 hown hK hP hD hS (k) (pw_at (by omega) (k102_0)) rfl 7 (by decide) q_f_RX0_48_Arithmetic_secondNum_LWhole (fun _ h9 => h9) rfl hnm rfl (tyX0_ok 7 (by decide)) rfl rfl (Nat.le_of_ble_eq_true rfl) dX0_init_105 (fun H locs hP hD hS => ?_)
  rw [pw_set] at hP hD
  obtain ⟨G_105, hg105⟩ : ∃ g : Nat → va_E, g = zu G (k) (.inr (0, [.ref (ad (k + 1)), .ref (ad (k + 4)), .ref (ad (k + 13)), .ref (ad (k + 15)), .ref (ad (k + 17)), .ref (ad (k + 19)), .ref (ad (k + 21)), .ref (ad (k + 23)), .null])) := ⟨_, rfl⟩
  have hP : va_P D vwCl (pw (k + 25) ad G_105) H := by rw [hg105]; exact hP
  have hD : va_D A (pw (k + 25) ad G_105) := by rw [hg105]; exact hD
  have ho105 : ∀ i8 : Nat, i8 ≠ k → G_105 i8 = G i8 := fun i8 hk => by rw [hg105]; exact zu_n _ _ hk
  have he105 : G_105 (k) = .inr (0, [.ref (ad (k + 1)), .ref (ad (k + 4)), .ref (ad (k + 13)), .ref (ad (k + 15)), .ref (ad (k + 17)), .ref (ad (k + 19)), .ref (ad (k + 21)), .ref (ad (k + 23)), .null]) := by rw [hg105]; exact zu_s _ _ _
  have hlo : ∀ i : Nat, i < k → ad i = ad0 i ∧ G_105 i = G0 i := fun i hi => ⟨((show ad (i) = ad (i) ∧ G_105 (i) = G (i) from ⟨rfl, ho105 (i) (by omega)⟩)).1.trans (hlo i hi).1, ((show ad (i) = ad (i) ∧ G_105 (i) = G (i) from ⟨rfl, ho105 (i) (by omega)⟩)).2.trans (hlo i hi).2⟩
  have px9 : kDv cI ad G_105 (k + 1) := px9.mv (fun i h1 h2 => ⟨rfl, ho105 i (by omega)⟩)
  have px24 : kEu cI ad G_105 (k + 1) (k + 4) := px24.mv ((show ad (k + 1) = ad (k + 1) ∧ G_105 (k + 1) = G (k + 1) from ⟨rfl, ho105 (k + 1) (by omega)⟩)).1 (fun i h1 h2 => ⟨rfl, ho105 i (by omega)⟩)
  have pw37 : pHas cI ad G_105 (k + 13) (96) := pw37.mv (fun i h1 h2 => ⟨rfl, ho105 i (by omega)⟩)
  have pw50 : pHas cI ad G_105 (k + 15) (96) := pw50.mv (fun i h1 h2 => ⟨rfl, ho105 i (by omega)⟩)
  have pw63 : pHas cI ad G_105 (k + 17) (96) := pw63.mv (fun i h1 h2 => ⟨rfl, ho105 i (by omega)⟩)
  have pw76 : pHas cI ad G_105 (k + 19) (96) := pw76.mv (fun i h1 h2 => ⟨rfl, ho105 i (by omega)⟩)
  have pw89 : pHas cI ad G_105 (k + 21) (96) := pw89.mv (fun i h1 h2 => ⟨rfl, ho105 i (by omega)⟩)
  have pw102 : pHas cI ad G_105 (k + 23) (96) := pw102.mv (fun i h1 h2 => ⟨rfl, ho105 i (by omega)⟩)
  refine lv_aload_n hx hb dX0_init_108 rfl (lv_at hl 0 rfl) ?_
  refine zk_new (D := D) (C := RX9) (T := TX9) (N := 2) (ci := 9) hx hb hts hin9 tyX9 tyX9_ok hown q_classLink_RX0_27_RX9 q_instantiable_RX9_2 q_initialized_RX9 hK hP hD hS hA rfl [.null, .int (iZ (0))] (hfX9) (by show _ ≤ 26; omega) (by show _ ≤ 1283; omega) dX0_init_109 (fun ad G H ha109 hn109 hP hD hS => ?_)
  have hl : lv_has ls 1 [(0, .ref (ad (k)))] := by rw [(ha109 (k) (by omega)).1]; exact hl
  refine zk_st [.ref (ad (k + 25)), .ref (ad (k))] (by rw [(ha109 (k) (by omega)).1]) ?_
  have k109_0 : G (k) = .inr (0, [.ref (ad (k + 1)), .ref (ad (k + 4)), .ref (ad (k + 13)), .ref (ad (k + 15)), .ref (ad (k + 17)), .ref (ad (k + 19)), .ref (ad (k + 21)), .ref (ad (k + 23)), .null]) := by rw [(ha109 (k) (by omega)).2, he105, (ha109 (k + 1) (by omega)).1, (ha109 (k + 13) (by omega)).1, (ha109 (k + 15) (by omega)).1, (ha109 (k + 17) (by omega)).1, (ha109 (k + 19) (by omega)).1, (ha109 (k + 21) (by omega)).1, (ha109 (k + 23) (by omega)).1, (ha109 (k + 4) (by omega)).1]
  have hlo : ∀ i : Nat, i < k → ad i = ad0 i ∧ G i = G0 i := fun i hi => ⟨((ha109 (i) (by omega))).1.trans (hlo i hi).1, ((ha109 (i) (by omega))).2.trans (hlo i hi).2⟩
  have hak : ad k = ad0 k := ((ha109 (k) (by omega))).1.trans hak
  have px9 : kDv cI ad G (k + 1) := px9.mv (fun i h1 h2 => ha109 i (by omega))
  have px24 : kEu cI ad G (k + 1) (k + 4) := px24.mv ((ha109 (k + 1) (by omega))).1 (fun i h1 h2 => ha109 i (by omega))
  have pw37 : pHas cI ad G (k + 13) (96) := pw37.mv (fun i h1 h2 => ha109 i (by omega))
  have pw50 : pHas cI ad G (k + 15) (96) := pw50.mv (fun i h1 h2 => ha109 i (by omega))
  have pw63 : pHas cI ad G (k + 17) (96) := pw63.mv (fun i h1 h2 => ha109 i (by omega))
  have pw76 : pHas cI ad G (k + 19) (96) := pw76.mv (fun i h1 h2 => ha109 i (by omega))
  have pw89 : pHas cI ad G (k + 21) (96) := pw89.mv (fun i h1 h2 => ha109 i (by omega))
  have pw102 : pHas cI ad G (k + 23) (96) := pw102.mv (fun i h1 h2 => ha109 i (by omega))
  have hP : va_P D vwCl (pw (k + 26) ad G) H := by rw [show k + 26 = k + 25 + 1 by omega]; exact hP
  have hD : va_D A (pw (k + 26) ad G) := by rw [show k + 26 = k + 25 + 1 by omega]; exact hD
  refine lv_dup hx hb dX0_init_112 rfl ?_
  refine lv_bipush (v := iZ 96) hx hb dX0_init_113 (by decide) ?_
  refine zc_Kv (As := [.int (iZ (96))]) (rest := [.ref (ad (k + 25)), .ref (ad (k))]) ⟨hx, hb, hml, hown, hts⟩ (k_whole l D cI cJ cE cF cR (_) (k + 25) ad G (by omega) (96) (by omega) (by omega) (hn109)) (cwI 1 hts gX0_init_X9_init rfl rfl rfl q_initialized_RX9 q_methodLink_RX0_29_yX9_init q_instanceMethod_yX9_init rfl (by decide +kernel) ⟨Nat.le_of_ble_eq_true rfl, Nat.le_of_ble_eq_true rfl⟩) hN hAO hK hP hD hS hA rfl hl.1 (Nat.le_of_ble_eq_true rfl) dX0_init_115 ⟨by show _ ≤ 26; omega, by show _ ≤ 1283; omega⟩ (fun ad G H locs ha115 hao115 pw115 hP hD hS => ?_)
  have hl : lv_has ls 1 [(0, .ref (ad (k)))] := by rw [(ha115 (k) (by omega)).1]; exact hl
  refine zk_st [.ref (ad (k + 25)), .ref (ad (k))] (by rw [(ha115 (k) (by omega)).1, hao115]) ?_
  have k115_0 : G (k) = .inr (0, [.ref (ad (k + 1)), .ref (ad (k + 4)), .ref (ad (k + 13)), .ref (ad (k + 15)), .ref (ad (k + 17)), .ref (ad (k + 19)), .ref (ad (k + 21)), .ref (ad (k + 23)), .null]) := by rw [(ha115 (k) (by omega)).2, k109_0, (ha115 (k + 1) (by omega)).1, (ha115 (k + 13) (by omega)).1, (ha115 (k + 15) (by omega)).1, (ha115 (k + 17) (by omega)).1, (ha115 (k + 19) (by omega)).1, (ha115 (k + 21) (by omega)).1, (ha115 (k + 23) (by omega)).1, (ha115 (k + 4) (by omega)).1]
  have hlo : ∀ i : Nat, i < k → ad i = ad0 i ∧ G i = G0 i := fun i hi => ⟨((ha115 (i) (by omega))).1.trans (hlo i hi).1, ((ha115 (i) (by omega))).2.trans (hlo i hi).2⟩
  have hak : ad k = ad0 k := ((ha115 (k) (by omega))).1.trans hak
  have px9 : kDv cI ad G (k + 1) := px9.mv (fun i h1 h2 => ha115 i (by omega))
  have px24 : kEu cI ad G (k + 1) (k + 4) := px24.mv ((ha115 (k + 1) (by omega))).1 (fun i h1 h2 => ha115 i (by omega))
  have pw37 : pHas cI ad G (k + 13) (96) := pw37.mv (fun i h1 h2 => ha115 i (by omega))
  have pw50 : pHas cI ad G (k + 15) (96) := pw50.mv (fun i h1 h2 => ha115 i (by omega))
  have pw63 : pHas cI ad G (k + 17) (96) := pw63.mv (fun i h1 h2 => ha115 i (by omega))
  have pw76 : pHas cI ad G (k + 19) (96) := pw76.mv (fun i h1 h2 => ha115 i (by omega))
  have pw89 : pHas cI ad G (k + 21) (96) := pw89.mv (fun i h1 h2 => ha115 i (by omega))
  have pw102 : pHas cI ad G (k + 23) (96) := pw102.mv (fun i h1 h2 => ha115 i (by omega))
  have hP : va_P D vwCl (pw (k + 27) ad G) H := by rw [show k + 27 = k + 25 + 2 by omega]; exact hP
  have hD : va_D A (pw (k + 27) ad G) := by rw [show k + 27 = k + 25 + 2 by omega]; exact hD
  have pw115 : pHas cI ad G (k + 25) (96) := pw115
  refine va_putF (D := D) (ci := 0) (v := .ref (ad (k + 25))) (ty := tyX0 8) (C := RX0) (T := TX0) (N := 9) hx hb hts hin0 tyX0 tyX0_ok nmX0 hown hK hP hD hS (k) (pw_at (by omega) (k115_0)) rfl 8 (by decide) q_f_RX0_51_Arithmetic_secondDen_LWhole (fun _ h9 => h9) rfl hnm rfl (tyX0_ok 8 (by decide)) rfl rfl (Nat.le_of_ble_eq_true rfl) dX0_init_118 (fun H locs hP hD hS => ?_)
  rw [pw_set] at hP hD
  obtain ⟨G_118, hg118⟩ : ∃ g : Nat → va_E, g = zu G (k) (.inr (0, [.ref (ad (k + 1)), .ref (ad (k + 4)), .ref (ad (k + 13)), .ref (ad (k + 15)), .ref (ad (k + 17)), .ref (ad (k + 19)), .ref (ad (k + 21)), .ref (ad (k + 23)), .ref (ad (k + 25))])) := ⟨_, rfl⟩
  have hP : va_P D vwCl (pw (k + 27) ad G_118) H := by rw [hg118]; exact hP
  have hD : va_D A (pw (k + 27) ad G_118) := by rw [hg118]; exact hD
  have ho118 : ∀ i8 : Nat, i8 ≠ k → G_118 i8 = G i8 := fun i8 hk => by rw [hg118]; exact zu_n _ _ hk
  have he118 : G_118 (k) = .inr (0, [.ref (ad (k + 1)), .ref (ad (k + 4)), .ref (ad (k + 13)), .ref (ad (k + 15)), .ref (ad (k + 17)), .ref (ad (k + 19)), .ref (ad (k + 21)), .ref (ad (k + 23)), .ref (ad (k + 25))]) := by rw [hg118]; exact zu_s _ _ _
  have hlo : ∀ i : Nat, i < k → ad i = ad0 i ∧ G_118 i = G0 i := fun i hi => ⟨((show ad (i) = ad (i) ∧ G_118 (i) = G (i) from ⟨rfl, ho118 (i) (by omega)⟩)).1.trans (hlo i hi).1, ((show ad (i) = ad (i) ∧ G_118 (i) = G (i) from ⟨rfl, ho118 (i) (by omega)⟩)).2.trans (hlo i hi).2⟩
  have px9 : kDv cI ad G_118 (k + 1) := px9.mv (fun i h1 h2 => ⟨rfl, ho118 i (by omega)⟩)
  have px24 : kEu cI ad G_118 (k + 1) (k + 4) := px24.mv ((show ad (k + 1) = ad (k + 1) ∧ G_118 (k + 1) = G (k + 1) from ⟨rfl, ho118 (k + 1) (by omega)⟩)).1 (fun i h1 h2 => ⟨rfl, ho118 i (by omega)⟩)
  have pw37 : pHas cI ad G_118 (k + 13) (96) := pw37.mv (fun i h1 h2 => ⟨rfl, ho118 i (by omega)⟩)
  have pw50 : pHas cI ad G_118 (k + 15) (96) := pw50.mv (fun i h1 h2 => ⟨rfl, ho118 i (by omega)⟩)
  have pw63 : pHas cI ad G_118 (k + 17) (96) := pw63.mv (fun i h1 h2 => ⟨rfl, ho118 i (by omega)⟩)
  have pw76 : pHas cI ad G_118 (k + 19) (96) := pw76.mv (fun i h1 h2 => ⟨rfl, ho118 i (by omega)⟩)
  have pw89 : pHas cI ad G_118 (k + 21) (96) := pw89.mv (fun i h1 h2 => ⟨rfl, ho118 i (by omega)⟩)
  have pw102 : pHas cI ad G_118 (k + 23) (96) := pw102.mv (fun i h1 h2 => ⟨rfl, ho118 i (by omega)⟩)
  have pw115 : pHas cI ad G_118 (k + 25) (96) := pw115.mv (fun i h1 h2 => ⟨rfl, ho118 i (by omega)⟩)
  exact zr_vret hQ hx hb hr hlk dX0_init_121 hK hP hD hS (by omega) (by omega) (⟨ad, G_118, rfl, hlo, hak, ⟨he118, px9, px24, pw37, pw50, pw63, pw76, pw89, pw102, pw115⟩⟩)

set_option maxHeartbeats 4000000 in
set_option maxRecDepth 100000 in
/-- Residues -/
theorem k_res (l : Launch) (D : va_G) (cI cJ cE cF cR : ClassId) (n k : Nat) (ad0 : Nat → Nat) (G0 : Nat → va_E) (hn : n = k + 1) (hG0 : G0 k = .inr (7, [.null])) : Kv l D (zty cI cJ cE cF cR) yX7_init wsX7_init ({ frames := 1, cells := 1, slots := 36, locals := 12 } : Room) (1) (36) [.ref (ad0 (k))] (pw n ad0 G0) (kPo k 2 ad0 G0 (fun ad G => kRs cI ad G k)) := by
  unfold Kv
  refine zsK (Qc := zQv D _ _) (cc := cX7_init) (maxL := 1) (ret := none) (by decide) rfl (Nat.le_of_ble_eq_true rfl) ?_
  intro zp ze s zm below meth zc ls A args Q hQ hx hb hr hts hown hlk hml hnm hN hAO hA hK hP hD hS hl
  have q_methodLink_RX7_3_objectInit := hts (.methodLink RX7 3 objectInit) (by decide +kernel)
  have q_instanceMethod_objectInit := hts (.instanceMethod objectInit) (by decide +kernel)
  have q_code_objectInit_0xb1_1_none := hts (.code objectInit ⟨#[0xb1]⟩ 1 none) (by decide +kernel)
  have q_arrayClass_int := hts (.arrayClass .int) (by decide +kernel)
  have q_f_RX7_9_Residues_square_I := hts (.fieldLink RX7 9 "LimbSolver$Residues" "square" "[I") (by decide +kernel)
  have hin7 : ∀ w ∈ wsX70, w ∈ wsX7_init := by decide +kernel
  have hl : lv_has ls 1 [(0, .ref (ad0 (k)))] := hl
  obtain ⟨ad, G, had0, hGG0⟩ : ∃ (ad : Nat → Nat) (G : Nat → va_E), ad = ad0 ∧ G = G0 := ⟨ad0, G0, rfl, rfl⟩
  have hP : va_P D vwCl (pw (k + 1) ad G) s.heap := by rw [had0, hGG0, ← hn]; exact hP
  have hD : va_D A (pw (k + 1) ad G) := by rw [had0, hGG0, ← hn]; exact hD
  have hl : lv_has ls 1 [(0, .ref (ad (k)))] := by rw [had0]; exact hl
  have hlo : ∀ i : Nat, i < k → ad i = ad0 i ∧ G i = G0 i := fun i hi => by rw [had0, hGG0]; exact ⟨rfl, rfl⟩
  have hak : ad k = ad0 k := by rw [had0]
  have hk0 : G (k) = .inr (7, [.null]) := by rw [hGG0]; exact hG0
  refine lv_aload_n hx hb dX7_init_0 rfl (lv_at hl 0 rfl) ?_
  refine zk_obj hx hb hown q_methodLink_RX7_3_objectInit q_instanceMethod_objectInit q_code_objectInit_0xb1_1_none (hl.1.trans hml.symm) dX7_init_1 (Nat.le_of_ble_eq_true rfl) (Nat.le_of_ble_eq_true rfl) ?_
  refine lv_aload_n hx hb dX7_init_4 rfl (lv_at hl 0 rfl) ?_
  refine lv_bipush (v := iZ 36) hx hb dX7_init_5 (by decide) ?_
  refine zk_newI hx hb q_arrayClass_int hK 0 rfl hP hD hS hA (36) (rfl) (by decide) (by show _ ≤ 1; omega) (by show _ ≤ 36; omega) dX7_init_7 (fun ad G H ha7 hn7 hP hD hS => ?_)
  have hl : lv_has ls 1 [(0, .ref (ad (k)))] := by rw [(ha7 (k) (by omega)).1]; exact hl
  refine zk_st [.ref (ad (k + 1)), .ref (ad (k))] (by rw [(ha7 (k) (by omega)).1]) ?_
  have k7_0 : G (k) = .inr (7, [.null]) := by rw [(ha7 (k) (by omega)).2, hk0]
  have hlo : ∀ i : Nat, i < k → ad i = ad0 i ∧ G i = G0 i := fun i hi => ⟨((ha7 (i) (by omega))).1.trans (hlo i hi).1, ((ha7 (i) (by omega))).2.trans (hlo i hi).2⟩
  have hak : ad k = ad0 k := ((ha7 (k) (by omega))).1.trans hak
  have hP : va_P D vwCl (pw (k + 2) ad G) H := by rw [show k + 2 = k + 1 + 1 by omega]; exact hP
  have hD : va_D A (pw (k + 2) ad G) := by rw [show k + 2 = k + 1 + 1 by omega]; exact hD
  refine va_putF (D := D) (ci := 7) (v := .ref (ad (k + 1))) (ty := tyX7 0) (C := RX7) (T := TX7) (N := 1) hx hb hts hin7 tyX7 tyX7_ok nmX7 hown hK hP hD hS (k) (pw_at (by omega) (k7_0)) rfl 0 (by decide) q_f_RX7_9_Residues_square_I (fun _ h9 => h9) rfl hnm rfl (tyX7_ok 0 (by decide)) rfl rfl (Nat.le_of_ble_eq_true rfl) dX7_init_9 (fun H locs hP hD hS => ?_)
  rw [pw_set] at hP hD
  obtain ⟨G_9, hg9⟩ : ∃ g : Nat → va_E, g = zu G (k) (.inr (7, [.ref (ad (k + 1))])) := ⟨_, rfl⟩
  have hP : va_P D vwCl (pw (k + 2) ad G_9) H := by rw [hg9]; exact hP
  have hD : va_D A (pw (k + 2) ad G_9) := by rw [hg9]; exact hD
  have ho9 : ∀ i8 : Nat, i8 ≠ k → G_9 i8 = G i8 := fun i8 hk => by rw [hg9]; exact zu_n _ _ hk
  have he9 : G_9 (k) = .inr (7, [.ref (ad (k + 1))]) := by rw [hg9]; exact zu_s _ _ _
  have k9_1 : G_9 (k + 1) = aI cI (36) (fun _ => 0) := (ho9 (k + 1) (by omega)).trans (hn7)
  have hlo : ∀ i : Nat, i < k → ad i = ad0 i ∧ G_9 i = G0 i := fun i hi => ⟨((show ad (i) = ad (i) ∧ G_9 (i) = G (i) from ⟨rfl, ho9 (i) (by omega)⟩)).1.trans (hlo i hi).1, ((show ad (i) = ad (i) ∧ G_9 (i) = G (i) from ⟨rfl, ho9 (i) (by omega)⟩)).2.trans (hlo i hi).2⟩
  exact zr_vret hQ hx hb hr hlk dX7_init_12 hK hP hD hS (by omega) (by omega) (⟨ad, G_9, rfl, hlo, hak, ⟨he9, _, k9_1⟩⟩)

set_option maxHeartbeats 4000000 in
theorem k_restart (l : Launch) (D : va_G) (cI cJ cE cF cR : ClassId) (NP : Nat) (ad : Nat → Nat) (G : Nat → va_E) (k : Nat) (a b : Nat → Int) (q1 : G k = .inr (4, [.ref (ad (k + 1)), .ref (ad (k + 2)), .int (iZ 0)])) (q2 : G (k + 1) = aJ cJ 42 a) (q3 : G (k + 2) = aJ cJ 42 b) (hNP : k + 2 < NP) : Cv l D (zty cI cJ cE cF cR) yX4_restart wsX4_restart (zRm 0 0) 0 0 [.ref (ad k), .int (iZ 1)] (pw NP ad G) (fun w1 => ∃ G1 : Nat → va_E, w1 = pw NP ad G1 ∧ kEq cJ ad G1 k ∧ ∀ i9 : Nat, i9 ≠ k → i9 ≠ k + 1 → i9 ≠ k + 2 → G1 i9 = G i9) := by
  refine (Cv.frame (c_restart l D cI cJ cE cF cR (ad k) (ad (k + 1)) (ad (k + 2)) 0 1 a b) [k, k + 1, k + 2] (by simp <;> omega) (by simp [va_nd] <;> omega) (by simp only [List.map_cons, List.map_nil, q1, q2, q3]) (by rintro u ⟨x, y, rfl, hxy⟩; rfl)).weak ?_
  rintro u ⟨G1, rfl, ⟨x, y, hw, hxy⟩, ho⟩
  exact ⟨G1, rfl, ⟨congrArg Prod.snd (Option.some.inj (congrArg (fun l9 => l9[0]?) hw)), x, y, congrArg Prod.snd (Option.some.inj (congrArg (fun l9 => l9[1]?) hw)), congrArg Prod.snd (Option.some.inj (congrArg (fun l9 => l9[2]?) hw)), hxy⟩, fun i9 hc0 hc1 hc2 => by
    exact ho i9 (by simp <;> omega)⟩

set_option maxHeartbeats 4000000 in
set_option maxRecDepth 100000 in
/-- Equations -/
theorem k_eq (l : Launch) (D : va_G) (cI cJ cE cF cR : ClassId) (n k : Nat) (ad0 : Nat → Nat) (G0 : Nat → va_E) (hn : n = k + 1) (hG0 : G0 k = .inr (4, [.null, .null, .int (iZ (0))])) : Kv l D (zty cI cJ cE cF cR) yX4_init wsX4_init ({ frames := 1, cells := 2, slots := 84, locals := 22 } : Room) (2) (84) [.ref (ad0 (k))] (pw n ad0 G0) (kPo k 3 ad0 G0 (fun ad G => kEq cJ ad G k)) := by
  unfold Kv
  refine zsK (Qc := zQv D _ _) (cc := cX4_init) (maxL := 1) (ret := none) (by decide) rfl (Nat.le_of_ble_eq_true rfl) ?_
  intro zp ze s zm below meth zc ls A args Q hQ hx hb hr hts hown hlk hml hnm hN hAO hA hK hP hD hS hl
  have q_methodLink_RX4_3_objectInit := hts (.methodLink RX4 3 objectInit) (by decide +kernel)
  have q_instanceMethod_objectInit := hts (.instanceMethod objectInit) (by decide +kernel)
  have q_code_objectInit_0xb1_1_none := hts (.code objectInit ⟨#[0xb1]⟩ 1 none) (by decide +kernel)
  have q_arrayClass_long := hts (.arrayClass .long) (by decide +kernel)
  have q_f_RX4_9_Equations_nums_J := hts (.fieldLink RX4 9 "LimbSolver$Equations" "nums" "[J") (by decide +kernel)
  have hin4 : ∀ w ∈ wsX40, w ∈ wsX4_init := by decide +kernel
  have q_f_RX4_15_Equations_dens_J := hts (.fieldLink RX4 15 "LimbSolver$Equations" "dens" "[J") (by decide +kernel)
  have hl : lv_has ls 1 [(0, .ref (ad0 (k)))] := hl
  obtain ⟨ad, G, had0, hGG0⟩ : ∃ (ad : Nat → Nat) (G : Nat → va_E), ad = ad0 ∧ G = G0 := ⟨ad0, G0, rfl, rfl⟩
  have hP : va_P D vwCl (pw (k + 1) ad G) s.heap := by rw [had0, hGG0, ← hn]; exact hP
  have hD : va_D A (pw (k + 1) ad G) := by rw [had0, hGG0, ← hn]; exact hD
  have hl : lv_has ls 1 [(0, .ref (ad (k)))] := by rw [had0]; exact hl
  have hlo : ∀ i : Nat, i < k → ad i = ad0 i ∧ G i = G0 i := fun i hi => by rw [had0, hGG0]; exact ⟨rfl, rfl⟩
  have hak : ad k = ad0 k := by rw [had0]
  have hk0 : G (k) = .inr (4, [.null, .null, .int (iZ (0))]) := by rw [hGG0]; exact hG0
  refine lv_aload_n hx hb dX4_init_0 rfl (lv_at hl 0 rfl) ?_
  refine zk_obj hx hb hown q_methodLink_RX4_3_objectInit q_instanceMethod_objectInit q_code_objectInit_0xb1_1_none (hl.1.trans hml.symm) dX4_init_1 (Nat.le_of_ble_eq_true rfl) (Nat.le_of_ble_eq_true rfl) ?_
  refine lv_aload_n hx hb dX4_init_4 rfl (lv_at hl 0 rfl) ?_
  refine lv_bipush (v := iZ 42) hx hb dX4_init_5 (by decide) ?_
  refine zk_newJ hx hb q_arrayClass_long hK 1 rfl hP hD hS hA (42) (rfl) (by decide) (by show _ ≤ 2; omega) (by show _ ≤ 84; omega) dX4_init_7 (fun ad G H ha7 hn7 hP hD hS => ?_)
  have hl : lv_has ls 1 [(0, .ref (ad (k)))] := by rw [(ha7 (k) (by omega)).1]; exact hl
  refine zk_st [.ref (ad (k + 1)), .ref (ad (k))] (by rw [(ha7 (k) (by omega)).1]) ?_
  have k7_0 : G (k) = .inr (4, [.null, .null, .int (iZ (0))]) := by rw [(ha7 (k) (by omega)).2, hk0]
  have hlo : ∀ i : Nat, i < k → ad i = ad0 i ∧ G i = G0 i := fun i hi => ⟨((ha7 (i) (by omega))).1.trans (hlo i hi).1, ((ha7 (i) (by omega))).2.trans (hlo i hi).2⟩
  have hak : ad k = ad0 k := ((ha7 (k) (by omega))).1.trans hak
  have hP : va_P D vwCl (pw (k + 2) ad G) H := by rw [show k + 2 = k + 1 + 1 by omega]; exact hP
  have hD : va_D A (pw (k + 2) ad G) := by rw [show k + 2 = k + 1 + 1 by omega]; exact hD
  refine va_putF (D := D) (ci := 4) (v := .ref (ad (k + 1))) (ty := tyX4 0) (C := RX4) (T := TX4) (N := 3) hx hb hts hin4 tyX4 tyX4_ok nmX4 hown hK hP hD hS (k) (pw_at (by omega) (k7_0)) rfl 0 (by decide) q_f_RX4_9_Equations_nums_J (fun _ h9 => h9) rfl hnm rfl (tyX4_ok 0 (by decide)) rfl rfl (Nat.le_of_ble_eq_true rfl) dX4_init_9 (fun H locs hP hD hS => ?_)
  rw [pw_set] at hP hD
  obtain ⟨G_9, hg9⟩ : ∃ g : Nat → va_E, g = zu G (k) (.inr (4, [.ref (ad (k + 1)), .null, .int (iZ (0))])) := ⟨_, rfl⟩
  have hP : va_P D vwCl (pw (k + 2) ad G_9) H := by rw [hg9]; exact hP
  have hD : va_D A (pw (k + 2) ad G_9) := by rw [hg9]; exact hD
  have ho9 : ∀ i8 : Nat, i8 ≠ k → G_9 i8 = G i8 := fun i8 hk => by rw [hg9]; exact zu_n _ _ hk
  have he9 : G_9 (k) = .inr (4, [.ref (ad (k + 1)), .null, .int (iZ (0))]) := by rw [hg9]; exact zu_s _ _ _
  have k9_1 : G_9 (k + 1) = aJ cJ (42) (fun _ => 0) := (ho9 (k + 1) (by omega)).trans (hn7)
  have hlo : ∀ i : Nat, i < k → ad i = ad0 i ∧ G_9 i = G0 i := fun i hi => ⟨((show ad (i) = ad (i) ∧ G_9 (i) = G (i) from ⟨rfl, ho9 (i) (by omega)⟩)).1.trans (hlo i hi).1, ((show ad (i) = ad (i) ∧ G_9 (i) = G (i) from ⟨rfl, ho9 (i) (by omega)⟩)).2.trans (hlo i hi).2⟩
  refine lv_aload_n hx hb dX4_init_12 rfl (lv_at hl 0 rfl) ?_
  refine lv_bipush (v := iZ 42) hx hb dX4_init_13 (by decide) ?_
  refine zk_newJ hx hb q_arrayClass_long hK 1 rfl hP hD hS hA (42) (rfl) (by decide) (by show _ ≤ 2; omega) (by show _ ≤ 84; omega) dX4_init_15 (fun ad G H ha15 hn15 hP hD hS => ?_)
  have hl : lv_has ls 1 [(0, .ref (ad (k)))] := by rw [(ha15 (k) (by omega)).1]; exact hl
  refine zk_st [.ref (ad (k + 2)), .ref (ad (k))] (by rw [(ha15 (k) (by omega)).1]) ?_
  have k15_0 : G (k + 1) = aJ cJ (42) (fun _ => 0) := by rw [(ha15 (k + 1) (by omega)).2, k9_1]
  have k15_1 : G (k) = .inr (4, [.ref (ad (k + 1)), .null, .int (iZ (0))]) := by rw [(ha15 (k) (by omega)).2, he9, (ha15 (k + 1) (by omega)).1]
  have hlo : ∀ i : Nat, i < k → ad i = ad0 i ∧ G i = G0 i := fun i hi => ⟨((ha15 (i) (by omega))).1.trans (hlo i hi).1, ((ha15 (i) (by omega))).2.trans (hlo i hi).2⟩
  have hak : ad k = ad0 k := ((ha15 (k) (by omega))).1.trans hak
  have hP : va_P D vwCl (pw (k + 3) ad G) H := by rw [show k + 3 = k + 2 + 1 by omega]; exact hP
  have hD : va_D A (pw (k + 3) ad G) := by rw [show k + 3 = k + 2 + 1 by omega]; exact hD
  refine va_putF (D := D) (ci := 4) (v := .ref (ad (k + 2))) (ty := tyX4 1) (C := RX4) (T := TX4) (N := 3) hx hb hts hin4 tyX4 tyX4_ok nmX4 hown hK hP hD hS (k) (pw_at (by omega) (k15_1)) rfl 1 (by decide) q_f_RX4_15_Equations_dens_J (fun _ h9 => h9) rfl hnm rfl (tyX4_ok 1 (by decide)) rfl rfl (Nat.le_of_ble_eq_true rfl) dX4_init_17 (fun H locs hP hD hS => ?_)
  rw [pw_set] at hP hD
  obtain ⟨G_17, hg17⟩ : ∃ g : Nat → va_E, g = zu G (k) (.inr (4, [.ref (ad (k + 1)), .ref (ad (k + 2)), .int (iZ (0))])) := ⟨_, rfl⟩
  have hP : va_P D vwCl (pw (k + 3) ad G_17) H := by rw [hg17]; exact hP
  have hD : va_D A (pw (k + 3) ad G_17) := by rw [hg17]; exact hD
  have ho17 : ∀ i8 : Nat, i8 ≠ k → G_17 i8 = G i8 := fun i8 hk => by rw [hg17]; exact zu_n _ _ hk
  have he17 : G_17 (k) = .inr (4, [.ref (ad (k + 1)), .ref (ad (k + 2)), .int (iZ (0))]) := by rw [hg17]; exact zu_s _ _ _
  have k17_0 : G_17 (k + 1) = aJ cJ (42) (fun _ => 0) := (ho17 (k + 1) (by omega)).trans (k15_0)
  have k17_2 : G_17 (k + 2) = aJ cJ (42) (fun _ => 0) := (ho17 (k + 2) (by omega)).trans (hn15)
  have hlo : ∀ i : Nat, i < k → ad i = ad0 i ∧ G_17 i = G0 i := fun i hi => ⟨((show ad (i) = ad (i) ∧ G_17 (i) = G (i) from ⟨rfl, ho17 (i) (by omega)⟩)).1.trans (hlo i hi).1, ((show ad (i) = ad (i) ∧ G_17 (i) = G (i) from ⟨rfl, ho17 (i) (by omega)⟩)).2.trans (hlo i hi).2⟩
  refine lv_aload_n hx hb dX4_init_20 rfl (lv_at hl 0 rfl) ?_
  refine lv_iconst (v := iZ 1) hx hb dX4_init_21 rfl ?_
  refine zc_Vv (As := [.int (iZ (1))]) (rest := []) (wr := []) ⟨hx, hb, hml, hown, hts⟩ (k_restart l D cI cJ cE cF cR _ ad G_17 (k) (_) (_) (he17) (k17_0) (k17_2) (by omega)) (cwV 1 hts gX4_init_X4_restart rfl rfl rfl (by decide +kernel) ⟨Nat.le_of_ble_eq_true rfl, Nat.le_of_ble_eq_true rfl⟩) hN hK hP hD hS hA (List.range (k + 3)) [] (pw_all _ _ _) rfl (pw_nd _) rfl (fun _ h9 => nomatch h9) (q0 := k) (ci := 4) rfl rfl (pw_at (by omega) (he17)) rfl hl.1 (Nat.le_of_ble_eq_true rfl) dX4_init_22 ⟨by show _ ≤ 2; omega, by show _ ≤ 84; omega⟩ (fun w1 H locs hp hP hD hS => ?_)
  obtain ⟨G9, rfl, heq9, ho9⟩ := hp
  have hlo : ∀ i : Nat, i < k → ad i = ad0 i ∧ G9 i = G0 i := fun i hi => ⟨(hlo i hi).1, (ho9 i (by omega) (by omega) (by omega)).trans (hlo i hi).2⟩
  have hP : va_P D vwCl (pw (k + 3) ad G9) H := hP
  have hD : va_D A (pw (k + 3) ad G9) := hD
  exact zr_vret hQ hx hb hr hlk dX4_init_25 hK hP hD hS (by omega) (by omega) (⟨ad, G9, rfl, hlo, hak, heq9⟩)

set_option maxHeartbeats 4000000 in
set_option maxRecDepth 100000 in
/-- Row -/
theorem k_row (l : Launch) (D : va_G) (cI cJ cE cF cR : ClassId) (n k : Nat) (ad0 : Nat → Nat) (G0 : Nat → va_E) (hn : n = k + 1) (hG0 : G0 k = .inr (8, [.null, .null, .null, .int (iZ (0))])) : Kv l D (zty cI cJ cE cF cR) yX8_init wsX8_init ({ frames := 3, cells := 60, slots := 1581, locals := 66 } : Room) (60) (1581) [.ref (ad0 (k))] (pw n ad0 G0) (kPo k 61 ad0 G0 (fun ad G => kRo cI cE cF ad G k)) := by
  unfold Kv
  refine zsK (Qc := zQv D _ _) (cc := cX8_init) (maxL := 2) (ret := none) (by decide) rfl (Nat.le_of_ble_eq_true rfl) ?_
  intro zp ze s zm below meth zc ls A args Q hQ hx hb hr hts hown hlk hml hnm hN hAO hA hK hP hD hS hl
  have q_methodLink_RX8_3_objectInit := hts (.methodLink RX8 3 objectInit) (by decide +kernel)
  have q_instanceMethod_objectInit := hts (.instanceMethod objectInit) (by decide +kernel)
  have q_code_objectInit_0xb1_1_none := hts (.code objectInit ⟨#[0xb1]⟩ 1 none) (by decide +kernel)
  have q_classLink_RX8_9_RX3 := hts (.classLink RX8 9 RX3) (by decide +kernel)
  have q_f_RX8_11_Row_entries_LEntry := hts (.fieldLink RX8 11 "LimbSolver$Row" "entries" "[LLimbSolver$Entry;") (by decide +kernel)
  have hin8 : ∀ w ∈ wsX80, w ∈ wsX8_init := by decide +kernel
  have q_classLink_RX8_17_RX6 := hts (.classLink RX8 17 RX6) (by decide +kernel)
  have q_f_RX8_19_Row_cells_LFraction := hts (.fieldLink RX8 19 "LimbSolver$Row" "cells" "[LLimbSolver$Fraction;") (by decide +kernel)
  have hin9 : ∀ w ∈ wsX90, w ∈ wsX8_init := by decide +kernel
  have q_classLink_RX8_29_RX9 := hts (.classLink RX8 29 RX9) (by decide +kernel)
  have q_instantiable_RX9_2 := hts (.instantiable RX9 2) (by decide +kernel)
  have q_initialized_RX9 := hts (.initialized RX9) (by decide +kernel)
  have q_methodLink_RX8_31_yX9_init := hts (.methodLink RX8 31 yX9_init) (by decide +kernel)
  have q_instanceMethod_yX9_init := hts (.instanceMethod yX9_init) (by decide +kernel)
  have q_f_RX8_32_Row_scale_LWhole := hts (.fieldLink RX8 32 "LimbSolver$Row" "scale" "LLimbSolver$Whole;") (by decide +kernel)
  have q_f_RX8_36_Row_pivotColumn_I := hts (.fieldLink RX8 36 "LimbSolver$Row" "pivotColumn" "I") (by decide +kernel)
  have hin3 : ∀ w ∈ wsX30, w ∈ wsX8_init := by decide +kernel
  have q_instantiable_RX3_2 := hts (.instantiable RX3 2) (by decide +kernel)
  have q_initialized_RX3 := hts (.initialized RX3) (by decide +kernel)
  have q_methodLink_RX8_23_yX3_init := hts (.methodLink RX8 23 yX3_init) (by decide +kernel)
  have q_instanceMethod_yX3_init := hts (.instanceMethod yX3_init) (by decide +kernel)
  have hin6 : ∀ w ∈ wsX60, w ∈ wsX8_init := by decide +kernel
  have q_instantiable_RX6_3 := hts (.instantiable RX6 3) (by decide +kernel)
  have q_initialized_RX6 := hts (.initialized RX6) (by decide +kernel)
  have q_methodLink_RX8_26_yX6_init := hts (.methodLink RX8 26 yX6_init) (by decide +kernel)
  have q_instanceMethod_yX6_init := hts (.instanceMethod yX6_init) (by decide +kernel)
  have hl : lv_has ls 2 [(0, .ref (ad0 (k)))] := hl
  obtain ⟨ad, G, had0, hGG0⟩ : ∃ (ad : Nat → Nat) (G : Nat → va_E), ad = ad0 ∧ G = G0 := ⟨ad0, G0, rfl, rfl⟩
  have hP : va_P D vwCl (pw (k + 1) ad G) s.heap := by rw [had0, hGG0, ← hn]; exact hP
  have hD : va_D A (pw (k + 1) ad G) := by rw [had0, hGG0, ← hn]; exact hD
  have hl : lv_has ls 2 [(0, .ref (ad (k)))] := by rw [had0]; exact hl
  have hlo : ∀ i : Nat, i < k → ad i = ad0 i ∧ G i = G0 i := fun i hi => by rw [had0, hGG0]; exact ⟨rfl, rfl⟩
  have hak : ad k = ad0 k := by rw [had0]
  have hk0 : G (k) = .inr (8, [.null, .null, .null, .int (iZ (0))]) := by rw [hGG0]; exact hG0
  have hloop : ∀ (t : Nat) (j : Nat) (ad : Nat → Nat) (G : Nat → va_E) (H : Heap) (locs : List Loc) (ls : Array Slot), (j + t = 7) → (G (k) = .inr (8, [.ref (ad (k + 1)), .ref (ad (k + 2)), .null, .int (iZ (0))])) → (kRf cE ad G (k + 1) 7 j (k + 3) 8) → (kRf cF ad G (k + 2) 7 j (k + 6) 8) → (∀ j9 : Nat, j9 < j → pEh cI ad G (k + 3 + 8 * j9) 46 ∧ pFh cI ad G (k + 6 + 8 * j9) 80) → (∀ i : Nat, i < k → ad i = ad0 i ∧ G i = G0 i) → (ad k = ad0 k) →  va_P D vwCl (pw (k + 3 + 8 * j) ad G) H → va_D A (pw (k + 3 + 8 * j) ad G) → va_S A s.heap H locs → lv_has ls 2 [(1, .int (iZ (((j : Nat) : Int)))), (0, .ref (ad (k)))] → W zp l ze ({ frames := 3, cells := 60, slots := 1581, locals := 66 } : Room) s zm args below meth zc H locs (2 + 8 * j) (14 + 217 * j) Q (F0 zm 24 ls []) := by
    intro t
    induction t with
    | zero =>
      intro j ad G H locs ls hj hk9 hfe0 hfc0 hel hlo hak hP hD hS hl
      obtain rfl : j = 7 := by omega
      have hP : va_P D vwCl (pw (k + 59) ad G) H := hP
      have hD : va_D A (pw (k + 59) ad G) := hD
      refine lv_iload_n hx hb dX8_init_24 rfl (lv_at hl 0 rfl) ?_
      refine lv_bipush (v := iZ 7) hx hb dX8_init_25 (by decide) ?_
      refine zr_icmp_ge hx hb 68 ⟨by omega, by omega⟩ ⟨by omega, by omega⟩ dX8_init_27 (by decide) (fun h_27 => ?_) (fun h_27 => ?_)
      · refine lv_aload_n hx hb dX8_init_68 rfl (lv_at hl 1 rfl) ?_
        refine zk_new (D := D) (C := RX9) (T := TX9) (N := 2) (ci := 9) hx hb hts hin9 tyX9 tyX9_ok hown q_classLink_RX8_29_RX9 q_instantiable_RX9_2 q_initialized_RX9 hK hP hD hS hA rfl [.null, .int (iZ (0))] (hfX9) (by show _ ≤ 60; omega) (by show _ ≤ 1581; omega) dX8_init_69 (fun ad G H ha69 hn69 hP hD hS => ?_)
        have hl : lv_has ls 2 [(1, .int (iZ (((7 : Nat) : Int)))), (0, .ref (ad (k)))] := by rw [(ha69 (k) (by omega)).1]; exact hl
        refine zk_st [.ref (ad (k + 59)), .ref (ad (k))] (by rw [(ha69 (k) (by omega)).1]) ?_
        have k69_0 : G (k) = .inr (8, [.ref (ad (k + 1)), .ref (ad (k + 2)), .null, .int (iZ (0))]) := by rw [(ha69 (k) (by omega)).2, hk9, (ha69 (k + 1) (by omega)).1, (ha69 (k + 2) (by omega)).1]
        have hlo : ∀ i : Nat, i < k → ad i = ad0 i ∧ G i = G0 i := fun i hi => ⟨((ha69 (i) (by omega))).1.trans (hlo i hi).1, ((ha69 (i) (by omega))).2.trans (hlo i hi).2⟩
        have hak : ad k = ad0 k := ((ha69 (k) (by omega))).1.trans hak
        have hfe0 : kRf cE ad G (k + 1) 7 7 (k + 3) 8 := hfe0.mv ((ha69 (k + 1) (by omega))).2 (fun j9 h9 => ((ha69 (k + 3 + 8 * j9) (by omega))).1)
        have hfc0 : kRf cF ad G (k + 2) 7 7 (k + 6) 8 := hfc0.mv ((ha69 (k + 2) (by omega))).2 (fun j9 h9 => ((ha69 (k + 6 + 8 * j9) (by omega))).1)
        have hel : ∀ j9 : Nat, j9 < 7 → pEh cI ad G (k + 3 + 8 * j9) 46 ∧ pFh cI ad G (k + 6 + 8 * j9) 80 := fun j9 h9 => ⟨(hel j9 h9).1.mv (fun i h1 h2 => ha69 i (by omega)), (hel j9 h9).2.mv (fun i h1 h2 => ha69 i (by omega))⟩
        have hP : va_P D vwCl (pw (k + 60) ad G) H := by rw [show k + 60 = k + 59 + 1 by omega]; exact hP
        have hD : va_D A (pw (k + 60) ad G) := by rw [show k + 60 = k + 59 + 1 by omega]; exact hD
        refine lv_dup hx hb dX8_init_72 rfl ?_
        refine lv_bipush (v := iZ 46) hx hb dX8_init_73 (by decide) ?_
        refine zc_Kv (As := [.int (iZ (46))]) (rest := [.ref (ad (k + 59)), .ref (ad (k))]) ⟨hx, hb, hml, hown, hts⟩ (k_whole l D cI cJ cE cF cR (_) (k + 59) ad G (by omega) (46) (by omega) (by omega) (hn69)) (cwI 1 hts gX8_init_X9_init rfl rfl rfl q_initialized_RX9 q_methodLink_RX8_31_yX9_init q_instanceMethod_yX9_init rfl (by decide +kernel) ⟨Nat.le_of_ble_eq_true rfl, Nat.le_of_ble_eq_true rfl⟩) hN hAO hK hP hD hS hA rfl hl.1 (Nat.le_of_ble_eq_true rfl) dX8_init_75 ⟨by show _ ≤ 60; omega, by show _ ≤ 1581; omega⟩ (fun ad G H locs ha75 hao75 pw75 hP hD hS => ?_)
        have hl : lv_has ls 2 [(1, .int (iZ (((7 : Nat) : Int)))), (0, .ref (ad (k)))] := by rw [(ha75 (k) (by omega)).1]; exact hl
        refine zk_st [.ref (ad (k + 59)), .ref (ad (k))] (by rw [(ha75 (k) (by omega)).1, hao75]) ?_
        have k75_0 : G (k) = .inr (8, [.ref (ad (k + 1)), .ref (ad (k + 2)), .null, .int (iZ (0))]) := by rw [(ha75 (k) (by omega)).2, k69_0, (ha75 (k + 1) (by omega)).1, (ha75 (k + 2) (by omega)).1]
        have hlo : ∀ i : Nat, i < k → ad i = ad0 i ∧ G i = G0 i := fun i hi => ⟨((ha75 (i) (by omega))).1.trans (hlo i hi).1, ((ha75 (i) (by omega))).2.trans (hlo i hi).2⟩
        have hak : ad k = ad0 k := ((ha75 (k) (by omega))).1.trans hak
        have hfe0 : kRf cE ad G (k + 1) 7 7 (k + 3) 8 := hfe0.mv ((ha75 (k + 1) (by omega))).2 (fun j9 h9 => ((ha75 (k + 3 + 8 * j9) (by omega))).1)
        have hfc0 : kRf cF ad G (k + 2) 7 7 (k + 6) 8 := hfc0.mv ((ha75 (k + 2) (by omega))).2 (fun j9 h9 => ((ha75 (k + 6 + 8 * j9) (by omega))).1)
        have hel : ∀ j9 : Nat, j9 < 7 → pEh cI ad G (k + 3 + 8 * j9) 46 ∧ pFh cI ad G (k + 6 + 8 * j9) 80 := fun j9 h9 => ⟨(hel j9 h9).1.mv (fun i h1 h2 => ha75 i (by omega)), (hel j9 h9).2.mv (fun i h1 h2 => ha75 i (by omega))⟩
        have hP : va_P D vwCl (pw (k + 61) ad G) H := by rw [show k + 61 = k + 59 + 2 by omega]; exact hP
        have hD : va_D A (pw (k + 61) ad G) := by rw [show k + 61 = k + 59 + 2 by omega]; exact hD
        have pw75 : pHas cI ad G (k + 59) (46) := pw75
        refine va_putF (D := D) (ci := 8) (v := .ref (ad (k + 59))) (ty := tyX8 2) (C := RX8) (T := TX8) (N := 4) hx hb hts hin8 tyX8 tyX8_ok nmX8 hown hK hP hD hS (k) (pw_at (by omega) (k75_0)) rfl 2 (by decide) q_f_RX8_32_Row_scale_LWhole (fun _ h9 => h9) rfl hnm rfl (tyX8_ok 2 (by decide)) rfl rfl (Nat.le_of_ble_eq_true rfl) dX8_init_78 (fun H locs hP hD hS => ?_)
        rw [pw_set] at hP hD
        obtain ⟨G_78, hg78⟩ : ∃ g : Nat → va_E, g = zu G (k) (.inr (8, [.ref (ad (k + 1)), .ref (ad (k + 2)), .ref (ad (k + 59)), .int (iZ (0))])) := ⟨_, rfl⟩
        have hP : va_P D vwCl (pw (k + 61) ad G_78) H := by rw [hg78]; exact hP
        have hD : va_D A (pw (k + 61) ad G_78) := by rw [hg78]; exact hD
        have ho78 : ∀ i8 : Nat, i8 ≠ k → G_78 i8 = G i8 := fun i8 hk => by rw [hg78]; exact zu_n _ _ hk
        have he78 : G_78 (k) = .inr (8, [.ref (ad (k + 1)), .ref (ad (k + 2)), .ref (ad (k + 59)), .int (iZ (0))]) := by rw [hg78]; exact zu_s _ _ _
        have hlo : ∀ i : Nat, i < k → ad i = ad0 i ∧ G_78 i = G0 i := fun i hi => ⟨((show ad (i) = ad (i) ∧ G_78 (i) = G (i) from ⟨rfl, ho78 (i) (by omega)⟩)).1.trans (hlo i hi).1, ((show ad (i) = ad (i) ∧ G_78 (i) = G (i) from ⟨rfl, ho78 (i) (by omega)⟩)).2.trans (hlo i hi).2⟩
        have hfe0 : kRf cE ad G_78 (k + 1) 7 7 (k + 3) 8 := hfe0.mv ((show ad (k + 1) = ad (k + 1) ∧ G_78 (k + 1) = G (k + 1) from ⟨rfl, ho78 (k + 1) (by omega)⟩)).2 (fun j9 h9 => ((show ad (k + 3 + 8 * j9) = ad (k + 3 + 8 * j9) ∧ G_78 (k + 3 + 8 * j9) = G (k + 3 + 8 * j9) from ⟨rfl, ho78 (k + 3 + 8 * j9) (by omega)⟩)).1)
        have hfc0 : kRf cF ad G_78 (k + 2) 7 7 (k + 6) 8 := hfc0.mv ((show ad (k + 2) = ad (k + 2) ∧ G_78 (k + 2) = G (k + 2) from ⟨rfl, ho78 (k + 2) (by omega)⟩)).2 (fun j9 h9 => ((show ad (k + 6 + 8 * j9) = ad (k + 6 + 8 * j9) ∧ G_78 (k + 6 + 8 * j9) = G (k + 6 + 8 * j9) from ⟨rfl, ho78 (k + 6 + 8 * j9) (by omega)⟩)).1)
        have hel : ∀ j9 : Nat, j9 < 7 → pEh cI ad G_78 (k + 3 + 8 * j9) 46 ∧ pFh cI ad G_78 (k + 6 + 8 * j9) 80 := fun j9 h9 => ⟨(hel j9 h9).1.mv (fun i h1 h2 => ⟨rfl, ho78 i (by omega)⟩), (hel j9 h9).2.mv (fun i h1 h2 => ⟨rfl, ho78 i (by omega)⟩)⟩
        have pw75 : pHas cI ad G_78 (k + 59) (46) := pw75.mv (fun i h1 h2 => ⟨rfl, ho78 i (by omega)⟩)
        refine lv_aload_n hx hb dX8_init_81 rfl (lv_at hl 1 rfl) ?_
        refine lv_iconst (v := iZ (-1)) hx hb dX8_init_82 rfl ?_
        refine va_put (D := D) (ci := 8) (v := .int (iZ ((-1)))) (ty := tyX8 3) (C := RX8) (T := TX8) (N := 4) hx hb hts hin8 tyX8 tyX8_ok nmX8 hown hK hP hD hS (k) (pw_at (by omega) (he78)) rfl 3 (by decide) q_f_RX8_36_Row_pivotColumn_I (fun _ h9 => h9) rfl (tyX8_ok 3 (by decide)) rfl rfl (Nat.le_of_ble_eq_true rfl) dX8_init_83 (fun H locs hP hD hS => ?_)
        rw [pw_set] at hP hD
        obtain ⟨G_83, hg83⟩ : ∃ g : Nat → va_E, g = zu G_78 (k) (.inr (8, [.ref (ad (k + 1)), .ref (ad (k + 2)), .ref (ad (k + 59)), .int (iZ ((-1)))])) := ⟨_, rfl⟩
        have hP : va_P D vwCl (pw (k + 61) ad G_83) H := by rw [hg83]; exact hP
        have hD : va_D A (pw (k + 61) ad G_83) := by rw [hg83]; exact hD
        have ho83 : ∀ i8 : Nat, i8 ≠ k → G_83 i8 = G_78 i8 := fun i8 hk => by rw [hg83]; exact zu_n _ _ hk
        have he83 : G_83 (k) = .inr (8, [.ref (ad (k + 1)), .ref (ad (k + 2)), .ref (ad (k + 59)), .int (iZ ((-1)))]) := by rw [hg83]; exact zu_s _ _ _
        have hlo : ∀ i : Nat, i < k → ad i = ad0 i ∧ G_83 i = G0 i := fun i hi => ⟨((show ad (i) = ad (i) ∧ G_83 (i) = G_78 (i) from ⟨rfl, ho83 (i) (by omega)⟩)).1.trans (hlo i hi).1, ((show ad (i) = ad (i) ∧ G_83 (i) = G_78 (i) from ⟨rfl, ho83 (i) (by omega)⟩)).2.trans (hlo i hi).2⟩
        have hfe0 : kRf cE ad G_83 (k + 1) 7 7 (k + 3) 8 := hfe0.mv ((show ad (k + 1) = ad (k + 1) ∧ G_83 (k + 1) = G_78 (k + 1) from ⟨rfl, ho83 (k + 1) (by omega)⟩)).2 (fun j9 h9 => ((show ad (k + 3 + 8 * j9) = ad (k + 3 + 8 * j9) ∧ G_83 (k + 3 + 8 * j9) = G_78 (k + 3 + 8 * j9) from ⟨rfl, ho83 (k + 3 + 8 * j9) (by omega)⟩)).1)
        have hfc0 : kRf cF ad G_83 (k + 2) 7 7 (k + 6) 8 := hfc0.mv ((show ad (k + 2) = ad (k + 2) ∧ G_83 (k + 2) = G_78 (k + 2) from ⟨rfl, ho83 (k + 2) (by omega)⟩)).2 (fun j9 h9 => ((show ad (k + 6 + 8 * j9) = ad (k + 6 + 8 * j9) ∧ G_83 (k + 6 + 8 * j9) = G_78 (k + 6 + 8 * j9) from ⟨rfl, ho83 (k + 6 + 8 * j9) (by omega)⟩)).1)
        have hel : ∀ j9 : Nat, j9 < 7 → pEh cI ad G_83 (k + 3 + 8 * j9) 46 ∧ pFh cI ad G_83 (k + 6 + 8 * j9) 80 := fun j9 h9 => ⟨(hel j9 h9).1.mv (fun i h1 h2 => ⟨rfl, ho83 i (by omega)⟩), (hel j9 h9).2.mv (fun i h1 h2 => ⟨rfl, ho83 i (by omega)⟩)⟩
        have pw75 : pHas cI ad G_83 (k + 59) (46) := pw75.mv (fun i h1 h2 => ⟨rfl, ho83 i (by omega)⟩)
        exact zr_vret hQ hx hb hr hlk dX8_init_86 hK hP hD hS (by omega) (by omega) (⟨ad, G_83, rfl, hlo, hak, ⟨⟨-1, he83⟩, hfe0, hfc0, hel, pw75⟩⟩)
      · exfalso; omega
    | succ t ih =>
      intro j ad G H locs ls hj hk9 hfe0 hfc0 hel hlo hak hP hD hS hl
      obtain ⟨fe, hte, hfe⟩ := hfe0
      obtain ⟨fc, htc, hfc⟩ := hfc0
      refine lv_iload_n hx hb dX8_init_24 rfl (lv_at hl 0 rfl) ?_
      refine lv_bipush (v := iZ 7) hx hb dX8_init_25 (by decide) ?_
      refine zr_icmp_ge hx hb 68 ⟨by omega, by omega⟩ ⟨by omega, by omega⟩ dX8_init_27 (by decide) (fun h_27 => ?_) (fun h_27 => ?_)
      · exfalso; omega
      · refine lv_aload_n hx hb dX8_init_30 rfl (lv_at hl 1 rfl) ?_
        refine va_get (D := D) (ci := 8) (v := .ref (ad (k + 1))) (C := RX8) (T := TX8) (N := 4) hx hb hts hin8 hown hK hP (k) (pw_at (by omega) (hk9)) rfl 0 (by decide) q_f_RX8_11_Row_entries_LEntry (fun _ h9 => h9) rfl dX8_init_31 ?_
        refine lv_iload_n hx hb dX8_init_34 rfl (lv_at hl 0 rfl) ?_
        refine zk_new (D := D) (C := RX3) (T := TX3) (N := 2) (ci := 3) hx hb hts hin3 tyX3 tyX3_ok hown q_classLink_RX8_9_RX3 q_instantiable_RX3_2 q_initialized_RX3 hK hP hD hS hA rfl [.null, .int (iZ (0))] (hfX3) (by show _ ≤ 60; omega) (by show _ ≤ 1581; omega) dX8_init_35 (fun ad G H ha35 hn35 hP hD hS => ?_)
        have hl : lv_has ls 2 [(1, .int (iZ (((j : Nat) : Int)))), (0, .ref (ad (k)))] := by rw [(ha35 (k) (by omega)).1]; exact hl
        refine zk_st [.ref (ad (k + 3 + 8 * j)), .int (iZ (((j : Nat) : Int))), .ref (ad (k + 1))] (by rw [(ha35 (k + 1) (by omega)).1]) ?_
        have k35_0 : G (k) = .inr (8, [.ref (ad (k + 1)), .ref (ad (k + 2)), .null, .int (iZ (0))]) := by rw [(ha35 (k) (by omega)).2, hk9, (ha35 (k + 1) (by omega)).1, (ha35 (k + 2) (by omega)).1]
        have k35_1 : G (k + 1) = aR cE (7) (fe) := by rw [(ha35 (k + 1) (by omega)).2, hte]
        have k35_2 : G (k + 2) = aR cF (7) (fc) := by rw [(ha35 (k + 2) (by omega)).2, htc]
        have hlo : ∀ i : Nat, i < k → ad i = ad0 i ∧ G i = G0 i := fun i hi => ⟨((ha35 (i) (by omega))).1.trans (hlo i hi).1, ((ha35 (i) (by omega))).2.trans (hlo i hi).2⟩
        have hak : ad k = ad0 k := ((ha35 (k) (by omega))).1.trans hak
        have hfe : ∀ j9 : Nat, j9 < j → fe j9 = some (ad (k + 3 + 8 * j9)) := fun j9 h9 => by rw [hfe j9 h9, ((ha35 (k + 3 + 8 * j9) (by omega))).1]
        have hfc : ∀ j9 : Nat, j9 < j → fc j9 = some (ad (k + 6 + 8 * j9)) := fun j9 h9 => by rw [hfc j9 h9, ((ha35 (k + 6 + 8 * j9) (by omega))).1]
        have hel : ∀ j9 : Nat, j9 < j → pEh cI ad G (k + 3 + 8 * j9) 46 ∧ pFh cI ad G (k + 6 + 8 * j9) 80 := fun j9 h9 => ⟨(hel j9 h9).1.mv (fun i h1 h2 => ha35 i (by omega)), (hel j9 h9).2.mv (fun i h1 h2 => ha35 i (by omega))⟩
        have hP : va_P D vwCl (pw (k + 4 + 8 * j) ad G) H := by rw [show k + 4 + 8 * j = k + 3 + 8 * j + 1 by omega]; exact hP
        have hD : va_D A (pw (k + 4 + 8 * j) ad G) := by rw [show k + 4 + 8 * j = k + 3 + 8 * j + 1 by omega]; exact hD
        refine lv_dup hx hb dX8_init_38 rfl ?_
        refine lv_bipush (v := iZ 46) hx hb dX8_init_39 (by decide) ?_
        refine zc_Kv (As := [.int (iZ (46))]) (rest := [.ref (ad (k + 3 + 8 * j)), .int (iZ (((j : Nat) : Int))), .ref (ad (k + 1))]) ⟨hx, hb, hml, hown, hts⟩ (k_entry l D cI cJ cE cF cR (_) (k + 3 + 8 * j) ad G (by omega) (46) (by omega) (by omega) (hn35)) (cwI 1 hts gX8_init_X3_init rfl rfl rfl q_initialized_RX3 q_methodLink_RX8_23_yX3_init q_instanceMethod_yX3_init rfl (by decide +kernel) ⟨Nat.le_of_ble_eq_true rfl, Nat.le_of_ble_eq_true rfl⟩) hN hAO hK hP hD hS hA rfl hl.1 (Nat.le_of_ble_eq_true rfl) dX8_init_41 ⟨by show _ ≤ 60; omega, by show _ ≤ 1581; omega⟩ (fun ad G H locs ha41 hao41 pe41 hP hD hS => ?_)
        have hl : lv_has ls 2 [(1, .int (iZ (((j : Nat) : Int)))), (0, .ref (ad (k)))] := by rw [(ha41 (k) (by omega)).1]; exact hl
        refine zk_st [.ref (ad (k + 3 + 8 * j)), .int (iZ (((j : Nat) : Int))), .ref (ad (k + 1))] (by rw [(ha41 (k + 1) (by omega)).1, hao41]) ?_
        have k41_0 : G (k) = .inr (8, [.ref (ad (k + 1)), .ref (ad (k + 2)), .null, .int (iZ (0))]) := by rw [(ha41 (k) (by omega)).2, k35_0, (ha41 (k + 1) (by omega)).1, (ha41 (k + 2) (by omega)).1]
        have k41_1 : G (k + 1) = aR cE (7) (fe) := by rw [(ha41 (k + 1) (by omega)).2, k35_1]
        have k41_2 : G (k + 2) = aR cF (7) (fc) := by rw [(ha41 (k + 2) (by omega)).2, k35_2]
        have hlo : ∀ i : Nat, i < k → ad i = ad0 i ∧ G i = G0 i := fun i hi => ⟨((ha41 (i) (by omega))).1.trans (hlo i hi).1, ((ha41 (i) (by omega))).2.trans (hlo i hi).2⟩
        have hak : ad k = ad0 k := ((ha41 (k) (by omega))).1.trans hak
        have hfe : ∀ j9 : Nat, j9 < j → fe j9 = some (ad (k + 3 + 8 * j9)) := fun j9 h9 => by rw [hfe j9 h9, ((ha41 (k + 3 + 8 * j9) (by omega))).1]
        have hfc : ∀ j9 : Nat, j9 < j → fc j9 = some (ad (k + 6 + 8 * j9)) := fun j9 h9 => by rw [hfc j9 h9, ((ha41 (k + 6 + 8 * j9) (by omega))).1]
        have hel : ∀ j9 : Nat, j9 < j → pEh cI ad G (k + 3 + 8 * j9) 46 ∧ pFh cI ad G (k + 6 + 8 * j9) 80 := fun j9 h9 => ⟨(hel j9 h9).1.mv (fun i h1 h2 => ha41 i (by omega)), (hel j9 h9).2.mv (fun i h1 h2 => ha41 i (by omega))⟩
        have hP : va_P D vwCl (pw (k + 6 + 8 * j) ad G) H := by rw [show k + 6 + 8 * j = k + 3 + 8 * j + 3 by omega]; exact hP
        have hD : va_D A (pw (k + 6 + 8 * j) ad G) := by rw [show k + 6 + 8 * j = k + 3 + 8 * j + 3 by omega]; exact hD
        have pe41 : pEh cI ad G (k + 3 + 8 * j) (46) := pe41
        obtain ⟨⟨sg41, hsg41⟩, _⟩ := id pe41
        refine zr_aast hx hb hK hP hD hS (k + 1) 2 (k + 3 + 8 * j) 3 (pw_at (by omega) (k41_1)) rfl (pw_at (by omega) (hsg41)) rfl (j) (by omega) (by omega) (by omega) dX8_init_44 (fun H locs hP hD hS => ?_)
        rw [pw_set] at hP hD
        obtain ⟨G_44, hg44⟩ : ∃ g : Nat → va_E, g = zu G (k + 1) (aR cE (7) (zu (fe) (j) (some (ad (k + 3 + 8 * j))))) := ⟨_, rfl⟩
        have hP : va_P D vwCl (pw (k + 6 + 8 * j) ad G_44) H := by rw [hg44]; exact hP
        have hD : va_D A (pw (k + 6 + 8 * j) ad G_44) := by rw [hg44]; exact hD
        have ho44 : ∀ i8 : Nat, i8 ≠ k + 1 → G_44 i8 = G i8 := fun i8 hk => by rw [hg44]; exact zu_n _ _ hk
        have he44 : G_44 (k + 1) = aR cE (7) (zu (fe) (j) (some (ad (k + 3 + 8 * j)))) := by rw [hg44]; exact zu_s _ _ _
        have k44_0 : G_44 (k) = .inr (8, [.ref (ad (k + 1)), .ref (ad (k + 2)), .null, .int (iZ (0))]) := (ho44 (k) (by omega)).trans (k41_0)
        have k44_2 : G_44 (k + 2) = aR cF (7) (fc) := (ho44 (k + 2) (by omega)).trans (k41_2)
        have k44_3 : G_44 (k + 3 + 8 * j) = .inr (3, [.ref (ad (k + 3 + 8 * j + 1)), .int (iZ (sg41))]) := (ho44 (k + 3 + 8 * j) (by omega)).trans (hsg41)
        have hlo : ∀ i : Nat, i < k → ad i = ad0 i ∧ G_44 i = G0 i := fun i hi => ⟨((show ad (i) = ad (i) ∧ G_44 (i) = G (i) from ⟨rfl, ho44 (i) (by omega)⟩)).1.trans (hlo i hi).1, ((show ad (i) = ad (i) ∧ G_44 (i) = G (i) from ⟨rfl, ho44 (i) (by omega)⟩)).2.trans (hlo i hi).2⟩
        have hel : ∀ j9 : Nat, j9 < j → pEh cI ad G_44 (k + 3 + 8 * j9) 46 ∧ pFh cI ad G_44 (k + 6 + 8 * j9) 80 := fun j9 h9 => ⟨(hel j9 h9).1.mv (fun i h1 h2 => ⟨rfl, ho44 i (by omega)⟩), (hel j9 h9).2.mv (fun i h1 h2 => ⟨rfl, ho44 i (by omega)⟩)⟩
        have pe41 : pEh cI ad G_44 (k + 3 + 8 * j) (46) := pe41.mv (fun i h1 h2 => ⟨rfl, ho44 i (by omega)⟩)
        refine lv_aload_n hx hb dX8_init_45 rfl (lv_at hl 1 rfl) ?_
        refine va_get (D := D) (ci := 8) (v := .ref (ad (k + 2))) (C := RX8) (T := TX8) (N := 4) hx hb hts hin8 hown hK hP (k) (pw_at (by omega) (k44_0)) rfl 1 (by decide) q_f_RX8_19_Row_cells_LFraction (fun _ h9 => h9) rfl dX8_init_46 ?_
        refine lv_iload_n hx hb dX8_init_49 rfl (lv_at hl 0 rfl) ?_
        refine zk_new (D := D) (C := RX6) (T := TX6) (N := 3) (ci := 6) hx hb hts hin6 tyX6 tyX6_ok hown q_classLink_RX8_17_RX6 q_instantiable_RX6_3 q_initialized_RX6 hK hP hD hS hA rfl [.null, .null, .int (iZ (0))] (hfX6) (by show _ ≤ 60; omega) (by show _ ≤ 1581; omega) dX8_init_50 (fun ad G H ha50 hn50 hP hD hS => ?_)
        have hl : lv_has ls 2 [(1, .int (iZ (((j : Nat) : Int)))), (0, .ref (ad (k)))] := by rw [(ha50 (k) (by omega)).1]; exact hl
        refine zk_st [.ref (ad (k + 6 + 8 * j)), .int (iZ (((j : Nat) : Int))), .ref (ad (k + 2))] (by rw [(ha50 (k + 2) (by omega)).1]) ?_
        have k50_0 : G (k) = .inr (8, [.ref (ad (k + 1)), .ref (ad (k + 2)), .null, .int (iZ (0))]) := by rw [(ha50 (k) (by omega)).2, k44_0, (ha50 (k + 1) (by omega)).1, (ha50 (k + 2) (by omega)).1]
        have k50_1 : G (k + 2) = aR cF (7) (fc) := by rw [(ha50 (k + 2) (by omega)).2, k44_2]
        have k50_2 : G (k + 3 + 8 * j) = .inr (3, [.ref (ad (k + 3 + 8 * j + 1)), .int (iZ (sg41))]) := by rw [(ha50 (k + 3 + 8 * j) (by omega)).2, k44_3, (ha50 (k + 3 + 8 * j + 1) (by omega)).1]
        have k50_3 : G (k + 1) = aR cE (7) (zu (fe) (j) (some (ad (k + 3 + 8 * j)))) := by rw [(ha50 (k + 1) (by omega)).2, he44, (ha50 (k + 3 + 8 * j) (by omega)).1]
        have hlo : ∀ i : Nat, i < k → ad i = ad0 i ∧ G i = G0 i := fun i hi => ⟨((ha50 (i) (by omega))).1.trans (hlo i hi).1, ((ha50 (i) (by omega))).2.trans (hlo i hi).2⟩
        have hak : ad k = ad0 k := ((ha50 (k) (by omega))).1.trans hak
        have hfe : ∀ j9 : Nat, j9 < j → fe j9 = some (ad (k + 3 + 8 * j9)) := fun j9 h9 => by rw [hfe j9 h9, ((ha50 (k + 3 + 8 * j9) (by omega))).1]
        have hfc : ∀ j9 : Nat, j9 < j → fc j9 = some (ad (k + 6 + 8 * j9)) := fun j9 h9 => by rw [hfc j9 h9, ((ha50 (k + 6 + 8 * j9) (by omega))).1]
        have hel : ∀ j9 : Nat, j9 < j → pEh cI ad G (k + 3 + 8 * j9) 46 ∧ pFh cI ad G (k + 6 + 8 * j9) 80 := fun j9 h9 => ⟨(hel j9 h9).1.mv (fun i h1 h2 => ha50 i (by omega)), (hel j9 h9).2.mv (fun i h1 h2 => ha50 i (by omega))⟩
        have pe41 : pEh cI ad G (k + 3 + 8 * j) (46) := pe41.mv (fun i h1 h2 => ha50 i (by omega))
        have hP : va_P D vwCl (pw (k + 7 + 8 * j) ad G) H := by rw [show k + 7 + 8 * j = k + 6 + 8 * j + 1 by omega]; exact hP
        have hD : va_D A (pw (k + 7 + 8 * j) ad G) := by rw [show k + 7 + 8 * j = k + 6 + 8 * j + 1 by omega]; exact hD
        refine lv_dup hx hb dX8_init_53 rfl ?_
        refine lv_bipush (v := iZ 80) hx hb dX8_init_54 (by decide) ?_
        refine lv_bipush (v := iZ 80) hx hb dX8_init_56 (by decide) ?_
        refine zc_Kv (As := [.int (iZ (80)), .int (iZ (80))]) (rest := [.ref (ad (k + 6 + 8 * j)), .int (iZ (((j : Nat) : Int))), .ref (ad (k + 2))]) ⟨hx, hb, hml, hown, hts⟩ (k_frac l D cI cJ cE cF cR (_) (k + 6 + 8 * j) ad G (by omega) (80) (by omega) (by omega) (hn50)) (cwI 2 hts gX8_init_X6_init rfl rfl rfl q_initialized_RX6 q_methodLink_RX8_26_yX6_init q_instanceMethod_yX6_init rfl (by decide +kernel) ⟨Nat.le_of_ble_eq_true rfl, Nat.le_of_ble_eq_true rfl⟩) hN hAO hK hP hD hS hA rfl hl.1 (Nat.le_of_ble_eq_true rfl) dX8_init_58 ⟨by show _ ≤ 60; omega, by show _ ≤ 1581; omega⟩ (fun ad G H locs ha58 hao58 pf58 hP hD hS => ?_)
        have hl : lv_has ls 2 [(1, .int (iZ (((j : Nat) : Int)))), (0, .ref (ad (k)))] := by rw [(ha58 (k) (by omega)).1]; exact hl
        refine zk_st [.ref (ad (k + 6 + 8 * j)), .int (iZ (((j : Nat) : Int))), .ref (ad (k + 2))] (by rw [(ha58 (k + 2) (by omega)).1, hao58]) ?_
        have k58_0 : G (k) = .inr (8, [.ref (ad (k + 1)), .ref (ad (k + 2)), .null, .int (iZ (0))]) := by rw [(ha58 (k) (by omega)).2, k50_0, (ha58 (k + 1) (by omega)).1, (ha58 (k + 2) (by omega)).1]
        have k58_1 : G (k + 2) = aR cF (7) (fc) := by rw [(ha58 (k + 2) (by omega)).2, k50_1]
        have k58_2 : G (k + 3 + 8 * j) = .inr (3, [.ref (ad (k + 3 + 8 * j + 1)), .int (iZ (sg41))]) := by rw [(ha58 (k + 3 + 8 * j) (by omega)).2, k50_2, (ha58 (k + 3 + 8 * j + 1) (by omega)).1]
        have k58_3 : G (k + 1) = aR cE (7) (zu (fe) (j) (some (ad (k + 3 + 8 * j)))) := by rw [(ha58 (k + 1) (by omega)).2, k50_3, (ha58 (k + 3 + 8 * j) (by omega)).1]
        have hlo : ∀ i : Nat, i < k → ad i = ad0 i ∧ G i = G0 i := fun i hi => ⟨((ha58 (i) (by omega))).1.trans (hlo i hi).1, ((ha58 (i) (by omega))).2.trans (hlo i hi).2⟩
        have hak : ad k = ad0 k := ((ha58 (k) (by omega))).1.trans hak
        have hfe : ∀ j9 : Nat, j9 < j → fe j9 = some (ad (k + 3 + 8 * j9)) := fun j9 h9 => by rw [hfe j9 h9, ((ha58 (k + 3 + 8 * j9) (by omega))).1]
        have hfc : ∀ j9 : Nat, j9 < j → fc j9 = some (ad (k + 6 + 8 * j9)) := fun j9 h9 => by rw [hfc j9 h9, ((ha58 (k + 6 + 8 * j9) (by omega))).1]
        have hel : ∀ j9 : Nat, j9 < j → pEh cI ad G (k + 3 + 8 * j9) 46 ∧ pFh cI ad G (k + 6 + 8 * j9) 80 := fun j9 h9 => ⟨(hel j9 h9).1.mv (fun i h1 h2 => ha58 i (by omega)), (hel j9 h9).2.mv (fun i h1 h2 => ha58 i (by omega))⟩
        have pe41 : pEh cI ad G (k + 3 + 8 * j) (46) := pe41.mv (fun i h1 h2 => ha58 i (by omega))
        have hP : va_P D vwCl (pw (k + 11 + 8 * j) ad G) H := by rw [show k + 11 + 8 * j = k + 6 + 8 * j + 5 by omega]; exact hP
        have hD : va_D A (pw (k + 11 + 8 * j) ad G) := by rw [show k + 11 + 8 * j = k + 6 + 8 * j + 5 by omega]; exact hD
        have pf58 : pFh cI ad G (k + 6 + 8 * j) (80) := pf58
        obtain ⟨⟨sg58, hsg58⟩, _⟩ := id pf58
        refine zr_aast hx hb hK hP hD hS (k + 2) 3 (k + 6 + 8 * j) 6 (pw_at (by omega) (k58_1)) rfl (pw_at (by omega) (hsg58)) rfl (j) (by omega) (by omega) (by omega) dX8_init_61 (fun H locs hP hD hS => ?_)
        rw [pw_set] at hP hD
        obtain ⟨G_61, hg61⟩ : ∃ g : Nat → va_E, g = zu G (k + 2) (aR cF (7) (zu (fc) (j) (some (ad (k + 6 + 8 * j))))) := ⟨_, rfl⟩
        have hP : va_P D vwCl (pw (k + 11 + 8 * j) ad G_61) H := by rw [hg61]; exact hP
        have hD : va_D A (pw (k + 11 + 8 * j) ad G_61) := by rw [hg61]; exact hD
        have ho61 : ∀ i8 : Nat, i8 ≠ k + 2 → G_61 i8 = G i8 := fun i8 hk => by rw [hg61]; exact zu_n _ _ hk
        have he61 : G_61 (k + 2) = aR cF (7) (zu (fc) (j) (some (ad (k + 6 + 8 * j)))) := by rw [hg61]; exact zu_s _ _ _
        have k61_0 : G_61 (k) = .inr (8, [.ref (ad (k + 1)), .ref (ad (k + 2)), .null, .int (iZ (0))]) := (ho61 (k) (by omega)).trans (k58_0)
        have k61_2 : G_61 (k + 3 + 8 * j) = .inr (3, [.ref (ad (k + 3 + 8 * j + 1)), .int (iZ (sg41))]) := (ho61 (k + 3 + 8 * j) (by omega)).trans (k58_2)
        have k61_3 : G_61 (k + 1) = aR cE (7) (zu (fe) (j) (some (ad (k + 3 + 8 * j)))) := (ho61 (k + 1) (by omega)).trans (k58_3)
        have k61_4 : G_61 (k + 6 + 8 * j) = .inr (6, [.ref (ad (k + 6 + 8 * j + 1)), .ref (ad (k + 6 + 8 * j + 3)), .int (iZ (sg58))]) := (ho61 (k + 6 + 8 * j) (by omega)).trans (hsg58)
        have hlo : ∀ i : Nat, i < k → ad i = ad0 i ∧ G_61 i = G0 i := fun i hi => ⟨((show ad (i) = ad (i) ∧ G_61 (i) = G (i) from ⟨rfl, ho61 (i) (by omega)⟩)).1.trans (hlo i hi).1, ((show ad (i) = ad (i) ∧ G_61 (i) = G (i) from ⟨rfl, ho61 (i) (by omega)⟩)).2.trans (hlo i hi).2⟩
        have hel : ∀ j9 : Nat, j9 < j → pEh cI ad G_61 (k + 3 + 8 * j9) 46 ∧ pFh cI ad G_61 (k + 6 + 8 * j9) 80 := fun j9 h9 => ⟨(hel j9 h9).1.mv (fun i h1 h2 => ⟨rfl, ho61 i (by omega)⟩), (hel j9 h9).2.mv (fun i h1 h2 => ⟨rfl, ho61 i (by omega)⟩)⟩
        have pe41 : pEh cI ad G_61 (k + 3 + 8 * j) (46) := pe41.mv (fun i h1 h2 => ⟨rfl, ho61 i (by omega)⟩)
        have pf58 : pFh cI ad G_61 (k + 6 + 8 * j) (80) := pf58.mv (fun i h1 h2 => ⟨rfl, ho61 i (by omega)⟩)
        refine lv_iinc (v := iZ (((j + 1 : Nat) : Int))) (lv' := [(1, .int (iZ (((j + 1 : Nat) : Int)))), (0, .ref (ad (k)))]) hx hb dX8_init_62 hl (k := 0) rfl (by rw [show ((j + 1 : Nat) : Int) = ((j : Nat) : Int) + 1 by omega]; exact iZ_add _ _) (by decide) rfl (fun ls hl => ?_)
        refine lv_goto (tgt := 24) hx hb dX8_init_65 (by decide) ?_
        refine zk_cs (c' := 2 + 8 * (j + 1)) (s' := 14 + 217 * (j + 1)) (by omega) (by omega) ?_
        exact ih (j + 1) ad G_61 H locs ls (by omega) k61_0 ⟨_, k61_3, fun j9 h9 => by
            by_cases q9 : j9 = j
            · rw [q9]; exact zu_s _ _ _
            · rw [zu_n _ _ q9]; exact hfe j9 (by omega)⟩ ⟨_, he61, fun j9 h9 => by
            by_cases q9 : j9 = j
            · rw [q9]; exact zu_s _ _ _
            · rw [zu_n _ _ q9]; exact hfc j9 (by omega)⟩ (fun j9 h9 => by
            by_cases q9 : j9 = j
            · rw [q9]; exact ⟨pe41, pf58⟩
            · exact hel j9 (by omega)) hlo hak (by rw [show k + 3 + 8 * (j + 1) = k + 11 + 8 * j by omega]; exact hP) (by rw [show k + 3 + 8 * (j + 1) = k + 11 + 8 * j by omega]; exact hD) hS hl
  refine lv_aload_n hx hb dX8_init_0 rfl (lv_at hl 0 rfl) ?_
  refine zk_obj hx hb hown q_methodLink_RX8_3_objectInit q_instanceMethod_objectInit q_code_objectInit_0xb1_1_none (hl.1.trans hml.symm) dX8_init_1 (Nat.le_of_ble_eq_true rfl) (Nat.le_of_ble_eq_true rfl) ?_
  refine lv_aload_n hx hb dX8_init_4 rfl (lv_at hl 0 rfl) ?_
  refine lv_bipush (v := iZ 7) hx hb dX8_init_5 (by decide) ?_
  refine zk_newR (C := RX3) hx hb hown q_classLink_RX8_9_RX3 hAO.1 hK 2 rfl hP hD hS hA (7) (rfl) (by decide) (by show _ ≤ 60; omega) (by show _ ≤ 1581; omega) dX8_init_7 (fun ad G H ha7 hn7 hP hD hS => ?_)
  have hl : lv_has ls 2 [(0, .ref (ad (k)))] := by rw [(ha7 (k) (by omega)).1]; exact hl
  refine zk_st [.ref (ad (k + 1)), .ref (ad (k))] (by rw [(ha7 (k) (by omega)).1]) ?_
  have k7_0 : G (k) = .inr (8, [.null, .null, .null, .int (iZ (0))]) := by rw [(ha7 (k) (by omega)).2, hk0]
  have hlo : ∀ i : Nat, i < k → ad i = ad0 i ∧ G i = G0 i := fun i hi => ⟨((ha7 (i) (by omega))).1.trans (hlo i hi).1, ((ha7 (i) (by omega))).2.trans (hlo i hi).2⟩
  have hak : ad k = ad0 k := ((ha7 (k) (by omega))).1.trans hak
  have hP : va_P D vwCl (pw (k + 2) ad G) H := by rw [show k + 2 = k + 1 + 1 by omega]; exact hP
  have hD : va_D A (pw (k + 2) ad G) := by rw [show k + 2 = k + 1 + 1 by omega]; exact hD
  refine va_putF (D := D) (ci := 8) (v := .ref (ad (k + 1))) (ty := tyX8 0) (C := RX8) (T := TX8) (N := 4) hx hb hts hin8 tyX8 tyX8_ok nmX8 hown hK hP hD hS (k) (pw_at (by omega) (k7_0)) rfl 0 (by decide) q_f_RX8_11_Row_entries_LEntry (fun _ h9 => h9) rfl hnm rfl (tyX8_ok 0 (by decide)) rfl rfl (Nat.le_of_ble_eq_true rfl) dX8_init_10 (fun H locs hP hD hS => ?_)
  rw [pw_set] at hP hD
  obtain ⟨G_10, hg10⟩ : ∃ g : Nat → va_E, g = zu G (k) (.inr (8, [.ref (ad (k + 1)), .null, .null, .int (iZ (0))])) := ⟨_, rfl⟩
  have hP : va_P D vwCl (pw (k + 2) ad G_10) H := by rw [hg10]; exact hP
  have hD : va_D A (pw (k + 2) ad G_10) := by rw [hg10]; exact hD
  have ho10 : ∀ i8 : Nat, i8 ≠ k → G_10 i8 = G i8 := fun i8 hk => by rw [hg10]; exact zu_n _ _ hk
  have he10 : G_10 (k) = .inr (8, [.ref (ad (k + 1)), .null, .null, .int (iZ (0))]) := by rw [hg10]; exact zu_s _ _ _
  have k10_1 : G_10 (k + 1) = aR cE (7) (fun _ => none) := (ho10 (k + 1) (by omega)).trans (hn7)
  have hlo : ∀ i : Nat, i < k → ad i = ad0 i ∧ G_10 i = G0 i := fun i hi => ⟨((show ad (i) = ad (i) ∧ G_10 (i) = G (i) from ⟨rfl, ho10 (i) (by omega)⟩)).1.trans (hlo i hi).1, ((show ad (i) = ad (i) ∧ G_10 (i) = G (i) from ⟨rfl, ho10 (i) (by omega)⟩)).2.trans (hlo i hi).2⟩
  refine lv_aload_n hx hb dX8_init_13 rfl (lv_at hl 0 rfl) ?_
  refine lv_bipush (v := iZ 7) hx hb dX8_init_14 (by decide) ?_
  refine zk_newR (C := RX6) hx hb hown q_classLink_RX8_17_RX6 hAO.2.1 hK 3 rfl hP hD hS hA (7) (rfl) (by decide) (by show _ ≤ 60; omega) (by show _ ≤ 1581; omega) dX8_init_16 (fun ad G H ha16 hn16 hP hD hS => ?_)
  have hl : lv_has ls 2 [(0, .ref (ad (k)))] := by rw [(ha16 (k) (by omega)).1]; exact hl
  refine zk_st [.ref (ad (k + 2)), .ref (ad (k))] (by rw [(ha16 (k) (by omega)).1]) ?_
  have k16_0 : G (k + 1) = aR cE (7) (fun _ => none) := by rw [(ha16 (k + 1) (by omega)).2, k10_1]
  have k16_1 : G (k) = .inr (8, [.ref (ad (k + 1)), .null, .null, .int (iZ (0))]) := by rw [(ha16 (k) (by omega)).2, he10, (ha16 (k + 1) (by omega)).1]
  have hlo : ∀ i : Nat, i < k → ad i = ad0 i ∧ G i = G0 i := fun i hi => ⟨((ha16 (i) (by omega))).1.trans (hlo i hi).1, ((ha16 (i) (by omega))).2.trans (hlo i hi).2⟩
  have hak : ad k = ad0 k := ((ha16 (k) (by omega))).1.trans hak
  have hP : va_P D vwCl (pw (k + 3) ad G) H := by rw [show k + 3 = k + 2 + 1 by omega]; exact hP
  have hD : va_D A (pw (k + 3) ad G) := by rw [show k + 3 = k + 2 + 1 by omega]; exact hD
  refine va_putF (D := D) (ci := 8) (v := .ref (ad (k + 2))) (ty := tyX8 1) (C := RX8) (T := TX8) (N := 4) hx hb hts hin8 tyX8 tyX8_ok nmX8 hown hK hP hD hS (k) (pw_at (by omega) (k16_1)) rfl 1 (by decide) q_f_RX8_19_Row_cells_LFraction (fun _ h9 => h9) rfl hnm rfl (tyX8_ok 1 (by decide)) rfl rfl (Nat.le_of_ble_eq_true rfl) dX8_init_19 (fun H locs hP hD hS => ?_)
  rw [pw_set] at hP hD
  obtain ⟨G_19, hg19⟩ : ∃ g : Nat → va_E, g = zu G (k) (.inr (8, [.ref (ad (k + 1)), .ref (ad (k + 2)), .null, .int (iZ (0))])) := ⟨_, rfl⟩
  have hP : va_P D vwCl (pw (k + 3) ad G_19) H := by rw [hg19]; exact hP
  have hD : va_D A (pw (k + 3) ad G_19) := by rw [hg19]; exact hD
  have ho19 : ∀ i8 : Nat, i8 ≠ k → G_19 i8 = G i8 := fun i8 hk => by rw [hg19]; exact zu_n _ _ hk
  have he19 : G_19 (k) = .inr (8, [.ref (ad (k + 1)), .ref (ad (k + 2)), .null, .int (iZ (0))]) := by rw [hg19]; exact zu_s _ _ _
  have k19_0 : G_19 (k + 1) = aR cE (7) (fun _ => none) := (ho19 (k + 1) (by omega)).trans (k16_0)
  have k19_2 : G_19 (k + 2) = aR cF (7) (fun _ => none) := (ho19 (k + 2) (by omega)).trans (hn16)
  have hlo : ∀ i : Nat, i < k → ad i = ad0 i ∧ G_19 i = G0 i := fun i hi => ⟨((show ad (i) = ad (i) ∧ G_19 (i) = G (i) from ⟨rfl, ho19 (i) (by omega)⟩)).1.trans (hlo i hi).1, ((show ad (i) = ad (i) ∧ G_19 (i) = G (i) from ⟨rfl, ho19 (i) (by omega)⟩)).2.trans (hlo i hi).2⟩
  refine lv_iconst (v := iZ 0) hx hb dX8_init_22 rfl ?_
  refine lv_istore_n (lv' := [(1, .int (iZ (0))), (0, .ref (ad (k)))]) hx hb dX8_init_23 rfl hl (by decide) rfl (fun ls hl => ?_)
  refine zk_cs (c' := 2 + 8 * 0) (s' := 14 + 217 * 0) (by omega) (by omega) ?_
  exact hloop 7 0 ad G_19 H locs ls rfl he19 ⟨_, k19_0, fun j9 h9 => absurd h9 (Nat.not_lt_zero j9)⟩ ⟨_, k19_2, fun j9 h9 => absurd h9 (Nat.not_lt_zero j9)⟩ (fun j9 h9 => absurd h9 (Nat.not_lt_zero j9)) hlo hak hP hD hS hl
