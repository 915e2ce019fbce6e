set_option maxHeartbeats 4000000 in
set_option maxRecDepth 100000 in
/-- Elimination -/
theorem k_el (l : Launch) (D : va_G) (cI cJ cE cF cR : ClassId) (n k : Nat) (ad0 : Nat → Nat) (G0 : Nat → va_E) (hn : n = k + 1) (hG0 : G0 k = .inr (2, [.null, .null, .null, .null, .null, .null, .null, .null, .null, .null, .null, .null, .int (iZ (0)), .int (iZ (0)), .int (iZ (0)), .int (iZ (0)), .int (iZ (0))])) : Kv l D (zty cI cJ cE cF cR) yX2_init wsX2_init ({ frames := 4, cells := 467, slots := 12268, locals := 87 } : Room) (467) (12268) [.ref (ad0 (k))] (pw n ad0 G0) (kPo k 468 ad0 G0 (fun ad G => kEl cI cE cF cR ad G k)) := by
  unfold Kv
  refine zsK (Qc := zQv D _ _) (cc := cX2_init) (maxL := 2) (ret := none) (by decide) rfl (Nat.le_of_ble_eq_true rfl) ?_
  intro zp ze s zm below meth zc ls A args Q hQ hx hb hr hts hown hlk hml hnm hN hAO hA hK hP hD hS hl
  have q_methodLink_RX2_3_objectInit := hts (.methodLink RX2 3 objectInit) (by decide +kernel)
  have q_instanceMethod_objectInit := hts (.instanceMethod objectInit) (by decide +kernel)
  have q_code_objectInit_0xb1_1_none := hts (.code objectInit ⟨#[0xb1]⟩ 1 none) (by decide +kernel)
  have hin0 : ∀ w ∈ wsX00, w ∈ wsX2_init := by decide +kernel
  have q_classLink_RX2_9_RX0 := hts (.classLink RX2 9 RX0) (by decide +kernel)
  have q_instantiable_RX0_9 := hts (.instantiable RX0 9) (by decide +kernel)
  have q_initialized_RX0 := hts (.initialized RX0) (by decide +kernel)
  have q_methodLink_RX2_11_yX0_init := hts (.methodLink RX2 11 yX0_init) (by decide +kernel)
  have q_instanceMethod_yX0_init := hts (.instanceMethod yX0_init) (by decide +kernel)
  have q_f_RX2_12_Elimination_arithmetic_LArithmetic := hts (.fieldLink RX2 12 "LimbSolver$Elimination" "arithmetic" "LLimbSolver$Arithmetic;") (by decide +kernel)
  have hin2 : ∀ w ∈ wsX20, w ∈ wsX2_init := by decide +kernel
  have q_classLink_RX2_18_RX8 := hts (.classLink RX2 18 RX8) (by decide +kernel)
  have q_f_RX2_20_Elimination_rows_LRow := hts (.fieldLink RX2 20 "LimbSolver$Elimination" "rows" "[LLimbSolver$Row;") (by decide +kernel)
  have q_classLink_RX2_24_RX6 := hts (.classLink RX2 24 RX6) (by decide +kernel)
  have q_f_RX2_26_Elimination_unknowns_LFraction := hts (.fieldLink RX2 26 "LimbSolver$Elimination" "unknowns" "[LLimbSolver$Fraction;") (by decide +kernel)
  have q_arrayClass_int := hts (.arrayClass .int) (by decide +kernel)
  have q_f_RX2_30_Elimination_pivotRows_I := hts (.fieldLink RX2 30 "LimbSolver$Elimination" "pivotRows" "[I") (by decide +kernel)
  have q_classLink_RX2_34_RX3 := hts (.classLink RX2 34 RX3) (by decide +kernel)
  have q_f_RX2_36_Elimination_asTold_LEntry := hts (.fieldLink RX2 36 "LimbSolver$Elimination" "asTold" "[LLimbSolver$Entry;") (by decide +kernel)
  have hin8 : ∀ w ∈ wsX80, w ∈ wsX2_init := by decide +kernel
  have q_instantiable_RX8_4 := hts (.instantiable RX8 4) (by decide +kernel)
  have q_initialized_RX8 := hts (.initialized RX8) (by decide +kernel)
  have q_methodLink_RX2_40_yX8_init := hts (.methodLink RX2 40 yX8_init) (by decide +kernel)
  have q_instanceMethod_yX8_init := hts (.instanceMethod yX8_init) (by decide +kernel)
  have hin6 : ∀ w ∈ wsX60, w ∈ wsX2_init := by decide +kernel
  have q_instantiable_RX6_3 := hts (.instantiable RX6 3) (by decide +kernel)
  have q_initialized_RX6 := hts (.initialized RX6) (by decide +kernel)
  have q_methodLink_RX2_41_yX6_init := hts (.methodLink RX2 41 yX6_init) (by decide +kernel)
  have q_instanceMethod_yX6_init := hts (.instanceMethod yX6_init) (by decide +kernel)
  have q_f_RX2_47_Elimination_volume_LFraction := hts (.fieldLink RX2 47 "LimbSolver$Elimination" "volume" "LLimbSolver$Fraction;") (by decide +kernel)
  have q_f_RX2_51_Elimination_ratio_LFraction := hts (.fieldLink RX2 51 "LimbSolver$Elimination" "ratio" "LLimbSolver$Fraction;") (by decide +kernel)
  have hin9 : ∀ w ∈ wsX90, w ∈ wsX2_init := by decide +kernel
  have q_classLink_RX2_54_RX9 := hts (.classLink RX2 54 RX9) (by decide +kernel)
  have q_instantiable_RX9_2 := hts (.instantiable RX9 2) (by decide +kernel)
  have q_initialized_RX9 := hts (.initialized RX9) (by decide +kernel)
  have q_methodLink_RX2_56_yX9_init := hts (.methodLink RX2 56 yX9_init) (by decide +kernel)
  have q_instanceMethod_yX9_init := hts (.instanceMethod yX9_init) (by decide +kernel)
  have q_f_RX2_57_Elimination_plus_LWhole := hts (.fieldLink RX2 57 "LimbSolver$Elimination" "plus" "LLimbSolver$Whole;") (by decide +kernel)
  have q_f_RX2_61_Elimination_minus_LWhole := hts (.fieldLink RX2 61 "LimbSolver$Elimination" "minus" "LLimbSolver$Whole;") (by decide +kernel)
  have q_f_RX2_64_Elimination_bottom_LWhole := hts (.fieldLink RX2 64 "LimbSolver$Elimination" "bottom" "LLimbSolver$Whole;") (by decide +kernel)
  have hin3 : ∀ w ∈ wsX30, w ∈ wsX2_init := by decide +kernel
  have q_instantiable_RX3_2 := hts (.instantiable RX3 2) (by decide +kernel)
  have q_initialized_RX3 := hts (.initialized RX3) (by decide +kernel)
  have q_methodLink_RX2_44_yX3_init := hts (.methodLink RX2 44 yX3_init) (by decide +kernel)
  have q_instanceMethod_yX3_init := hts (.instanceMethod yX3_init) (by decide +kernel)
  have q_f_RX2_67_Elimination_one_LEntry := hts (.fieldLink RX2 67 "LimbSolver$Elimination" "one" "LLimbSolver$Entry;") (by decide +kernel)
  have q_f_RX2_82_Elimination_lastPivot_LEntry := hts (.fieldLink RX2 82 "LimbSolver$Elimination" "lastPivot" "LLimbSolver$Entry;") (by decide +kernel)
  have q_f_RX2_85_Elimination_n_I := hts (.fieldLink RX2 85 "LimbSolver$Elimination" "n" "I") (by decide +kernel)
  have q_f_RX2_88_Elimination_turn_I := hts (.fieldLink RX2 88 "LimbSolver$Elimination" "turn" "I") (by decide +kernel)
  have q_f_RX2_91_Elimination_pivots_I := hts (.fieldLink RX2 91 "LimbSolver$Elimination" "pivots" "I") (by decide +kernel)
  have q_f_RX2_94_Elimination_mostLimbs_I := hts (.fieldLink RX2 94 "LimbSolver$Elimination" "mostLimbs" "I") (by decide +kernel)
  have q_f_RX2_97_Elimination_solvable_Z := hts (.fieldLink RX2 97 "LimbSolver$Elimination" "solvable" "Z") (by decide +kernel)
  have hl : lv_has ls 2 [(0, .ref (ad0 (k)))] := hl
  obtain ⟨ad, G, had0, hGG0⟩ : ∃ (ad : Nat → Nat) (G : Nat → va_E), ad = ad0 ∧ G = G0 := ⟨ad0, G0, rfl, rfl⟩
  have hP : va_P D vwCl (pw (k + 1) ad G) s.heap := by rw [had0, hGG0, ← hn]; exact hP
  have hD : va_D A (pw (k + 1) ad G) := by rw [had0, hGG0, ← hn]; exact hD
  have hl : lv_has ls 2 [(0, .ref (ad (k)))] := by rw [had0]; exact hl
  have hlo : ∀ i : Nat, i < k → ad i = ad0 i ∧ G i = G0 i := fun i hi => by rw [had0, hGG0]; exact ⟨rfl, rfl⟩
  have hak : ad k = ad0 k := by rw [had0]
  have hk0 : G (k) = .inr (2, [.null, .null, .null, .null, .null, .null, .null, .null, .null, .null, .null, .null, .int (iZ (0)), .int (iZ (0)), .int (iZ (0)), .int (iZ (0)), .int (iZ (0))]) := by rw [hGG0]; exact hG0
  have hloop2 : ∀ (t : Nat) (j : Nat) (ad : Nat → Nat) (G : Nat → va_E) (H : Heap) (locs : List Loc) (ls : Array Slot), (j + t = 7) → (G (k) = .inr (2, [.ref (ad (k + 1)), .ref (ad (k + 28)), .ref (ad (k + 29)), .ref (ad (k + 30)), .null, .null, .null, .null, .null, .null, .ref (ad (k + 31)), .null, .int (iZ (0)), .int (iZ (0)), .int (iZ (0)), .int (iZ (0)), .int (iZ (0))])) → (kAr cI ad G (k + 1)) → (kRf cR ad G (k + 28) 6 6 (k + 32) 66) → (kRf cF ad G (k + 29) 6 6 (k + 93) 66) → (∃ PR : Nat → Int, G (k + 30) = aI cI 6 PR) → (kRf cE ad G (k + 31) 7 j (k + 428) 3) → (∀ q9 : Nat, q9 < 6 → kRo cI cE cF ad G (k + 32 + 66 * q9) ∧ pFh cI ad G (k + 93 + 66 * q9) 46) → (∀ j9 : Nat, j9 < j → pEh cI ad G (k + 428 + 3 * j9) 46) → (∀ i : Nat, i < k → ad i = ad0 i ∧ G i = G0 i) → (ad k = ad0 k) →  va_P D vwCl (pw (k + 428 + 3 * j) ad G) H → va_D A (pw (k + 428 + 3 * j) ad G) → va_S A s.heap H locs → lv_has ls 2 [(1, .int (iZ (((j : Nat) : Int)))), (0, .ref (ad (k)))] → W zp l ze ({ frames := 4, cells := 467, slots := 12268, locals := 87 } : Room) s zm args below meth zc H locs (427 + 3 * j) (11421 + 50 * j) Q (F0 zm 103 ls []) := by
    intro t
    induction t with
    | zero =>
      intro j ad G H locs ls hj hk9 har hrr hru hpr hta0 hro hej hlo hak hP hD hS hl
      obtain rfl : j = 7 := by omega
      have hP : va_P D vwCl (pw (k + 449) ad G) H := hP
      have hD : va_D A (pw (k + 449) ad G) := hD
      refine lv_iload_n hx hb dX2_init_103 rfl (lv_at hl 0 rfl) ?_
      refine lv_bipush (v := iZ 7) hx hb dX2_init_104 (by decide) ?_
      refine zr_icmp_ge hx hb 130 ⟨by omega, by omega⟩ ⟨by omega, by omega⟩ dX2_init_106 (by decide) (fun h_106 => ?_) (fun h_106 => ?_)
      · refine lv_aload_n hx hb dX2_init_130 rfl (lv_at hl 1 rfl) ?_
        refine zk_new (D := D) (C := RX6) (T := TX6) (N := 3) (ci := 6) hx hb hts hin6 tyX6 tyX6_ok hown q_classLink_RX2_24_RX6 q_instantiable_RX6_3 q_initialized_RX6 hK hP hD hS hA rfl [.null, .null, .int (iZ (0))] (hfX6) (by show _ ≤ 467; omega) (by show _ ≤ 12268; omega) dX2_init_131 (fun ad G H ha131 hn131 hP hD hS => ?_)
        have hl : lv_has ls 2 [(1, .int (iZ (((7 : Nat) : Int)))), (0, .ref (ad (k)))] := by rw [(ha131 (k) (by omega)).1]; exact hl
        refine zk_st [.ref (ad (k + 449)), .ref (ad (k))] (by rw [(ha131 (k) (by omega)).1]) ?_
        have k131_0 : G (k) = .inr (2, [.ref (ad (k + 1)), .ref (ad (k + 28)), .ref (ad (k + 29)), .ref (ad (k + 30)), .null, .null, .null, .null, .null, .null, .ref (ad (k + 31)), .null, .int (iZ (0)), .int (iZ (0)), .int (iZ (0)), .int (iZ (0)), .int (iZ (0))]) := by rw [(ha131 (k) (by omega)).2, hk9, (ha131 (k + 1) (by omega)).1, (ha131 (k + 28) (by omega)).1, (ha131 (k + 29) (by omega)).1, (ha131 (k + 30) (by omega)).1, (ha131 (k + 31) (by omega)).1]
        have hlo : ∀ i : Nat, i < k → ad i = ad0 i ∧ G i = G0 i := fun i hi => ⟨((ha131 (i) (by omega))).1.trans (hlo i hi).1, ((ha131 (i) (by omega))).2.trans (hlo i hi).2⟩
        have hak : ad k = ad0 k := ((ha131 (k) (by omega))).1.trans hak
        have har : kAr cI ad G (k + 1) := har.mv (fun i h1 h2 => ha131 i (by omega))
        have hrr : kRf cR ad G (k + 28) 6 6 (k + 32) 66 := hrr.mv ((ha131 (k + 28) (by omega))).2 (fun j9 h9 => ((ha131 (k + 32 + 66 * j9) (by omega))).1)
        have hru : kRf cF ad G (k + 29) 6 6 (k + 93) 66 := hru.mv ((ha131 (k + 29) (by omega))).2 (fun j9 h9 => ((ha131 (k + 93 + 66 * j9) (by omega))).1)
        have hpr : ∃ PR : Nat → Int, G (k + 30) = aI cI 6 PR := by obtain ⟨PR, h⟩ := hpr; exact ⟨PR, ((ha131 (k + 30) (by omega))).2.trans h⟩
        have hta0 : kRf cE ad G (k + 31) 7 7 (k + 428) 3 := hta0.mv ((ha131 (k + 31) (by omega))).2 (fun j9 h9 => ((ha131 (k + 428 + 3 * j9) (by omega))).1)
        have hro : ∀ q9 : Nat, q9 < 6 → kRo cI cE cF ad G (k + 32 + 66 * q9) ∧ pFh cI ad G (k + 93 + 66 * q9) 46 := fun q9 h9 => ⟨(hro q9 h9).1.mv (fun i h1 h2 => ha131 i (by omega)), (hro q9 h9).2.mv (fun i h1 h2 => ha131 i (by omega))⟩
        have hej : ∀ j9 : Nat, j9 < 7 → pEh cI ad G (k + 428 + 3 * j9) 46 := fun j9 h9 => (hej j9 h9).mv (fun i h1 h2 => ha131 i (by omega))
        have hP : va_P D vwCl (pw (k + 450) ad G) H := by rw [show k + 450 = k + 449 + 1 by omega]; exact hP
        have hD : va_D A (pw (k + 450) ad G) := by rw [show k + 450 = k + 449 + 1 by omega]; exact hD
        refine lv_dup hx hb dX2_init_134 rfl ?_
        refine lv_bipush (v := iZ 46) hx hb dX2_init_135 (by decide) ?_
        refine lv_bipush (v := iZ 46) hx hb dX2_init_137 (by decide) ?_
        refine zc_Kv (As := [.int (iZ (46)), .int (iZ (46))]) (rest := [.ref (ad (k + 449)), .ref (ad (k))]) ⟨hx, hb, hml, hown, hts⟩ (k_frac l D cI cJ cE cF cR (_) (k + 449) ad G (by omega) (46) (by omega) (by omega) (hn131)) (cwI 2 hts gX2_init_X6_init rfl rfl rfl q_initialized_RX6 q_methodLink_RX2_41_yX6_init q_instanceMethod_yX6_init rfl (by decide +kernel) ⟨Nat.le_of_ble_eq_true rfl, Nat.le_of_ble_eq_true rfl⟩) hN hAO hK hP hD hS hA rfl hl.1 (Nat.le_of_ble_eq_true rfl) dX2_init_139 ⟨by show _ ≤ 467; omega, by show _ ≤ 12268; omega⟩ (fun ad G H locs ha139 hao139 pf139 hP hD hS => ?_)
        have hl : lv_has ls 2 [(1, .int (iZ (((7 : Nat) : Int)))), (0, .ref (ad (k)))] := by rw [(ha139 (k) (by omega)).1]; exact hl
        refine zk_st [.ref (ad (k + 449)), .ref (ad (k))] (by rw [(ha139 (k) (by omega)).1, hao139]) ?_
        have k139_0 : G (k) = .inr (2, [.ref (ad (k + 1)), .ref (ad (k + 28)), .ref (ad (k + 29)), .ref (ad (k + 30)), .null, .null, .null, .null, .null, .null, .ref (ad (k + 31)), .null, .int (iZ (0)), .int (iZ (0)), .int (iZ (0)), .int (iZ (0)), .int (iZ (0))]) := by rw [(ha139 (k) (by omega)).2, k131_0, (ha139 (k + 1) (by omega)).1, (ha139 (k + 28) (by omega)).1, (ha139 (k + 29) (by omega)).1, (ha139 (k + 30) (by omega)).1, (ha139 (k + 31) (by omega)).1]
        have hlo : ∀ i : Nat, i < k → ad i = ad0 i ∧ G i = G0 i := fun i hi => ⟨((ha139 (i) (by omega))).1.trans (hlo i hi).1, ((ha139 (i) (by omega))).2.trans (hlo i hi).2⟩
        have hak : ad k = ad0 k := ((ha139 (k) (by omega))).1.trans hak
        have har : kAr cI ad G (k + 1) := har.mv (fun i h1 h2 => ha139 i (by omega))
        have hrr : kRf cR ad G (k + 28) 6 6 (k + 32) 66 := hrr.mv ((ha139 (k + 28) (by omega))).2 (fun j9 h9 => ((ha139 (k + 32 + 66 * j9) (by omega))).1)
        have hru : kRf cF ad G (k + 29) 6 6 (k + 93) 66 := hru.mv ((ha139 (k + 29) (by omega))).2 (fun j9 h9 => ((ha139 (k + 93 + 66 * j9) (by omega))).1)
        have hpr : ∃ PR : Nat → Int, G (k + 30) = aI cI 6 PR := by obtain ⟨PR, h⟩ := hpr; exact ⟨PR, ((ha139 (k + 30) (by omega))).2.trans h⟩
        have hta0 : kRf cE ad G (k + 31) 7 7 (k + 428) 3 := hta0.mv ((ha139 (k + 31) (by omega))).2 (fun j9 h9 => ((ha139 (k + 428 + 3 * j9) (by omega))).1)
        have hro : ∀ q9 : Nat, q9 < 6 → kRo cI cE cF ad G (k + 32 + 66 * q9) ∧ pFh cI ad G (k + 93 + 66 * q9) 46 := fun q9 h9 => ⟨(hro q9 h9).1.mv (fun i h1 h2 => ha139 i (by omega)), (hro q9 h9).2.mv (fun i h1 h2 => ha139 i (by omega))⟩
        have hej : ∀ j9 : Nat, j9 < 7 → pEh cI ad G (k + 428 + 3 * j9) 46 := fun j9 h9 => (hej j9 h9).mv (fun i h1 h2 => ha139 i (by omega))
        have hP : va_P D vwCl (pw (k + 454) ad G) H := by rw [show k + 454 = k + 449 + 5 by omega]; exact hP
        have hD : va_D A (pw (k + 454) ad G) := by rw [show k + 454 = k + 449 + 5 by omega]; exact hD
        have pf139 : pFh cI ad G (k + 449) (46) := pf139
        obtain ⟨⟨sg139, hsg139⟩, _⟩ := id pf139
        refine va_putF (D := D) (ci := 2) (v := .ref (ad (k + 449))) (ty := tyX2 4) (C := RX2) (T := TX2) (N := 17) hx hb hts hin2 tyX2 tyX2_ok nmX2 hown hK hP hD hS (k) (pw_at (by omega) (k139_0)) rfl 4 (by decide) q_f_RX2_47_Elimination_volume_LFraction (fun _ h9 => h9) rfl hnm rfl (tyX2_ok 4 (by decide)) rfl rfl (Nat.le_of_ble_eq_true rfl) dX2_init_142 (fun H locs hP hD hS => ?_)
        rw [pw_set] at hP hD
        obtain ⟨G_142, hg142⟩ : ∃ g : Nat → va_E, g = zu G (k) (.inr (2, [.ref (ad (k + 1)), .ref (ad (k + 28)), .ref (ad (k + 29)), .ref (ad (k + 30)), .ref (ad (k + 449)), .null, .null, .null, .null, .null, .ref (ad (k + 31)), .null, .int (iZ (0)), .int (iZ (0)), .int (iZ (0)), .int (iZ (0)), .int (iZ (0))])) := ⟨_, rfl⟩
        have hP : va_P D vwCl (pw (k + 454) ad G_142) H := by rw [hg142]; exact hP
        have hD : va_D A (pw (k + 454) ad G_142) := by rw [hg142]; exact hD
        have ho142 : ∀ i8 : Nat, i8 ≠ k → G_142 i8 = G i8 := fun i8 hk => by rw [hg142]; exact zu_n _ _ hk
        have he142 : G_142 (k) = .inr (2, [.ref (ad (k + 1)), .ref (ad (k + 28)), .ref (ad (k + 29)), .ref (ad (k + 30)), .ref (ad (k + 449)), .null, .null, .null, .null, .null, .ref (ad (k + 31)), .null, .int (iZ (0)), .int (iZ (0)), .int (iZ (0)), .int (iZ (0)), .int (iZ (0))]) := by rw [hg142]; exact zu_s _ _ _
        have k142_1 : G_142 (k + 449) = .inr (6, [.ref (ad (k + 449 + 1)), .ref (ad (k + 449 + 3)), .int (iZ (sg139))]) := (ho142 (k + 449) (by omega)).trans (hsg139)
        have hlo : ∀ i : Nat, i < k → ad i = ad0 i ∧ G_142 i = G0 i := fun i hi => ⟨((show ad (i) = ad (i) ∧ G_142 (i) = G (i) from ⟨rfl, ho142 (i) (by omega)⟩)).1.trans (hlo i hi).1, ((show ad (i) = ad (i) ∧ G_142 (i) = G (i) from ⟨rfl, ho142 (i) (by omega)⟩)).2.trans (hlo i hi).2⟩
        have har : kAr cI ad G_142 (k + 1) := har.mv (fun i h1 h2 => ⟨rfl, ho142 i (by omega)⟩)
        have hrr : kRf cR ad G_142 (k + 28) 6 6 (k + 32) 66 := hrr.mv ((show ad (k + 28) = ad (k + 28) ∧ G_142 (k + 28) = G (k + 28) from ⟨rfl, ho142 (k + 28) (by omega)⟩)).2 (fun j9 h9 => ((show ad (k + 32 + 66 * j9) = ad (k + 32 + 66 * j9) ∧ G_142 (k + 32 + 66 * j9) = G (k + 32 + 66 * j9) from ⟨rfl, ho142 (k + 32 + 66 * j9) (by omega)⟩)).1)
        have hru : kRf cF ad G_142 (k + 29) 6 6 (k + 93) 66 := hru.mv ((show ad (k + 29) = ad (k + 29) ∧ G_142 (k + 29) = G (k + 29) from ⟨rfl, ho142 (k + 29) (by omega)⟩)).2 (fun j9 h9 => ((show ad (k + 93 + 66 * j9) = ad (k + 93 + 66 * j9) ∧ G_142 (k + 93 + 66 * j9) = G (k + 93 + 66 * j9) from ⟨rfl, ho142 (k + 93 + 66 * j9) (by omega)⟩)).1)
        have hpr : ∃ PR : Nat → Int, G_142 (k + 30) = aI cI 6 PR := by obtain ⟨PR, h⟩ := hpr; exact ⟨PR, ((show ad (k + 30) = ad (k + 30) ∧ G_142 (k + 30) = G (k + 30) from ⟨rfl, ho142 (k + 30) (by omega)⟩)).2.trans h⟩
        have hta0 : kRf cE ad G_142 (k + 31) 7 7 (k + 428) 3 := hta0.mv ((show ad (k + 31) = ad (k + 31) ∧ G_142 (k + 31) = G (k + 31) from ⟨rfl, ho142 (k + 31) (by omega)⟩)).2 (fun j9 h9 => ((show ad (k + 428 + 3 * j9) = ad (k + 428 + 3 * j9) ∧ G_142 (k + 428 + 3 * j9) = G (k + 428 + 3 * j9) from ⟨rfl, ho142 (k + 428 + 3 * j9) (by omega)⟩)).1)
        have hro : ∀ q9 : Nat, q9 < 6 → kRo cI cE cF ad G_142 (k + 32 + 66 * q9) ∧ pFh cI ad G_142 (k + 93 + 66 * q9) 46 := fun q9 h9 => ⟨(hro q9 h9).1.mv (fun i h1 h2 => ⟨rfl, ho142 i (by omega)⟩), (hro q9 h9).2.mv (fun i h1 h2 => ⟨rfl, ho142 i (by omega)⟩)⟩
        have hej : ∀ j9 : Nat, j9 < 7 → pEh cI ad G_142 (k + 428 + 3 * j9) 46 := fun j9 h9 => (hej j9 h9).mv (fun i h1 h2 => ⟨rfl, ho142 i (by omega)⟩)
        have pf139 : pFh cI ad G_142 (k + 449) (46) := pf139.mv (fun i h1 h2 => ⟨rfl, ho142 i (by omega)⟩)
        refine lv_aload_n hx hb dX2_init_145 rfl (lv_at hl 1 rfl) ?_
        refine zk_new (D := D) (C := RX6) (T := TX6) (N := 3) (ci := 6) hx hb hts hin6 tyX6 tyX6_ok hown q_classLink_RX2_24_RX6 q_instantiable_RX6_3 q_initialized_RX6 hK hP hD hS hA rfl [.null, .null, .int (iZ (0))] (hfX6) (by show _ ≤ 467; omega) (by show _ ≤ 12268; omega) dX2_init_146 (fun ad G H ha146 hn146 hP hD hS => ?_)
        have hl : lv_has ls 2 [(1, .int (iZ (((7 : Nat) : Int)))), (0, .ref (ad (k)))] := by rw [(ha146 (k) (by omega)).1]; exact hl
        refine zk_st [.ref (ad (k + 454)), .ref (ad (k))] (by rw [(ha146 (k) (by omega)).1]) ?_
        have k146_0 : G (k + 449) = .inr (6, [.ref (ad (k + 449 + 1)), .ref (ad (k + 449 + 3)), .int (iZ (sg139))]) := by rw [(ha146 (k + 449) (by omega)).2, k142_1, (ha146 (k + 449 + 1) (by omega)).1, (ha146 (k + 449 + 3) (by omega)).1]
        have k146_1 : G (k) = .inr (2, [.ref (ad (k + 1)), .ref (ad (k + 28)), .ref (ad (k + 29)), .ref (ad (k + 30)), .ref (ad (k + 449)), .null, .null, .null, .null, .null, .ref (ad (k + 31)), .null, .int (iZ (0)), .int (iZ (0)), .int (iZ (0)), .int (iZ (0)), .int (iZ (0))]) := by rw [(ha146 (k) (by omega)).2, he142, (ha146 (k + 1) (by omega)).1, (ha146 (k + 28) (by omega)).1, (ha146 (k + 29) (by omega)).1, (ha146 (k + 30) (by omega)).1, (ha146 (k + 31) (by omega)).1, (ha146 (k + 449) (by omega)).1]
        have hlo : ∀ i : Nat, i < k → ad i = ad0 i ∧ G i = G0 i := fun i hi => ⟨((ha146 (i) (by omega))).1.trans (hlo i hi).1, ((ha146 (i) (by omega))).2.trans (hlo i hi).2⟩
        have hak : ad k = ad0 k := ((ha146 (k) (by omega))).1.trans hak
        have har : kAr cI ad G (k + 1) := har.mv (fun i h1 h2 => ha146 i (by omega))
        have hrr : kRf cR ad G (k + 28) 6 6 (k + 32) 66 := hrr.mv ((ha146 (k + 28) (by omega))).2 (fun j9 h9 => ((ha146 (k + 32 + 66 * j9) (by omega))).1)
        have hru : kRf cF ad G (k + 29) 6 6 (k + 93) 66 := hru.mv ((ha146 (k + 29) (by omega))).2 (fun j9 h9 => ((ha146 (k + 93 + 66 * j9) (by omega))).1)
        have hpr : ∃ PR : Nat → Int, G (k + 30) = aI cI 6 PR := by obtain ⟨PR, h⟩ := hpr; exact ⟨PR, ((ha146 (k + 30) (by omega))).2.trans h⟩
        have hta0 : kRf cE ad G (k + 31) 7 7 (k + 428) 3 := hta0.mv ((ha146 (k + 31) (by omega))).2 (fun j9 h9 => ((ha146 (k + 428 + 3 * j9) (by omega))).1)
        have hro : ∀ q9 : Nat, q9 < 6 → kRo cI cE cF ad G (k + 32 + 66 * q9) ∧ pFh cI ad G (k + 93 + 66 * q9) 46 := fun q9 h9 => ⟨(hro q9 h9).1.mv (fun i h1 h2 => ha146 i (by omega)), (hro q9 h9).2.mv (fun i h1 h2 => ha146 i (by omega))⟩
        have hej : ∀ j9 : Nat, j9 < 7 → pEh cI ad G (k + 428 + 3 * j9) 46 := fun j9 h9 => (hej j9 h9).mv (fun i h1 h2 => ha146 i (by omega))
        have pf139 : pFh cI ad G (k + 449) (46) := pf139.mv (fun i h1 h2 => ha146 i (by omega))
        have hP : va_P D vwCl (pw (k + 455) ad G) H := by rw [show k + 455 = k + 454 + 1 by omega]; exact hP
        have hD : va_D A (pw (k + 455) ad G) := by rw [show k + 455 = k + 454 + 1 by omega]; exact hD
        refine lv_dup hx hb dX2_init_149 rfl ?_
        refine lv_bipush (v := iZ 46) hx hb dX2_init_150 (by decide) ?_
        refine lv_bipush (v := iZ 46) hx hb dX2_init_152 (by decide) ?_
        refine zc_Kv (As := [.int (iZ (46)), .int (iZ (46))]) (rest := [.ref (ad (k + 454)), .ref (ad (k))]) ⟨hx, hb, hml, hown, hts⟩ (k_frac l D cI cJ cE cF cR (_) (k + 454) ad G (by omega) (46) (by omega) (by omega) (hn146)) (cwI 2 hts gX2_init_X6_init rfl rfl rfl q_initialized_RX6 q_methodLink_RX2_41_yX6_init q_instanceMethod_yX6_init rfl (by decide +kernel) ⟨Nat.le_of_ble_eq_true rfl, Nat.le_of_ble_eq_true rfl⟩) hN hAO hK hP hD hS hA rfl hl.1 (Nat.le_of_ble_eq_true rfl) dX2_init_154 ⟨by show _ ≤ 467; omega, by show _ ≤ 12268; omega⟩ (fun ad G H locs ha154 hao154 pf154 hP hD hS => ?_)
        have hl : lv_has ls 2 [(1, .int (iZ (((7 : Nat) : Int)))), (0, .ref (ad (k)))] := by rw [(ha154 (k) (by omega)).1]; exact hl
        refine zk_st [.ref (ad (k + 454)), .ref (ad (k))] (by rw [(ha154 (k) (by omega)).1, hao154]) ?_
        have k154_0 : G (k + 449) = .inr (6, [.ref (ad (k + 449 + 1)), .ref (ad (k + 449 + 3)), .int (iZ (sg139))]) := by rw [(ha154 (k + 449) (by omega)).2, k146_0, (ha154 (k + 449 + 1) (by omega)).1, (ha154 (k + 449 + 3) (by omega)).1]
        have k154_1 : G (k) = .inr (2, [.ref (ad (k + 1)), .ref (ad (k + 28)), .ref (ad (k + 29)), .ref (ad (k + 30)), .ref (ad (k + 449)), .null, .null, .null, .null, .null, .ref (ad (k + 31)), .null, .int (iZ (0)), .int (iZ (0)), .int (iZ (0)), .int (iZ (0)), .int (iZ (0))]) := by rw [(ha154 (k) (by omega)).2, k146_1, (ha154 (k + 1) (by omega)).1, (ha154 (k + 28) (by omega)).1, (ha154 (k + 29) (by omega)).1, (ha154 (k + 30) (by omega)).1, (ha154 (k + 31) (by omega)).1, (ha154 (k + 449) (by omega)).1]
        have hlo : ∀ i : Nat, i < k → ad i = ad0 i ∧ G i = G0 i := fun i hi => ⟨((ha154 (i) (by omega))).1.trans (hlo i hi).1, ((ha154 (i) (by omega))).2.trans (hlo i hi).2⟩
        have hak : ad k = ad0 k := ((ha154 (k) (by omega))).1.trans hak
        have har : kAr cI ad G (k + 1) := har.mv (fun i h1 h2 => ha154 i (by omega))
        have hrr : kRf cR ad G (k + 28) 6 6 (k + 32) 66 := hrr.mv ((ha154 (k + 28) (by omega))).2 (fun j9 h9 => ((ha154 (k + 32 + 66 * j9) (by omega))).1)
        have hru : kRf cF ad G (k + 29) 6 6 (k + 93) 66 := hru.mv ((ha154 (k + 29) (by omega))).2 (fun j9 h9 => ((ha154 (k + 93 + 66 * j9) (by omega))).1)
        have hpr : ∃ PR : Nat → Int, G (k + 30) = aI cI 6 PR := by obtain ⟨PR, h⟩ := hpr; exact ⟨PR, ((ha154 (k + 30) (by omega))).2.trans h⟩
        have hta0 : kRf cE ad G (k + 31) 7 7 (k + 428) 3 := hta0.mv ((ha154 (k + 31) (by omega))).2 (fun j9 h9 => ((ha154 (k + 428 + 3 * j9) (by omega))).1)
        have hro : ∀ q9 : Nat, q9 < 6 → kRo cI cE cF ad G (k + 32 + 66 * q9) ∧ pFh cI ad G (k + 93 + 66 * q9) 46 := fun q9 h9 => ⟨(hro q9 h9).1.mv (fun i h1 h2 => ha154 i (by omega)), (hro q9 h9).2.mv (fun i h1 h2 => ha154 i (by omega))⟩
        have hej : ∀ j9 : Nat, j9 < 7 → pEh cI ad G (k + 428 + 3 * j9) 46 := fun j9 h9 => (hej j9 h9).mv (fun i h1 h2 => ha154 i (by omega))
        have pf139 : pFh cI ad G (k + 449) (46) := pf139.mv (fun i h1 h2 => ha154 i (by omega))
        have hP : va_P D vwCl (pw (k + 459) ad G) H := by rw [show k + 459 = k + 454 + 5 by omega]; exact hP
        have hD : va_D A (pw (k + 459) ad G) := by rw [show k + 459 = k + 454 + 5 by omega]; exact hD
        have pf154 : pFh cI ad G (k + 454) (46) := pf154
        obtain ⟨⟨sg154, hsg154⟩, _⟩ := id pf154
        refine va_putF (D := D) (ci := 2) (v := .ref (ad (k + 454))) (ty := tyX2 5) (C := RX2) (T := TX2) (N := 17) hx hb hts hin2 tyX2 tyX2_ok nmX2 hown hK hP hD hS (k) (pw_at (by omega) (k154_1)) rfl 5 (by decide) q_f_RX2_51_Elimination_ratio_LFraction (fun _ h9 => h9) rfl hnm rfl (tyX2_ok 5 (by decide)) rfl rfl (Nat.le_of_ble_eq_true rfl) dX2_init_157 (fun H locs hP hD hS => ?_)
        rw [pw_set] at hP hD
        obtain ⟨G_157, hg157⟩ : ∃ g : Nat → va_E, g = zu G (k) (.inr (2, [.ref (ad (k + 1)), .ref (ad (k + 28)), .ref (ad (k + 29)), .ref (ad (k + 30)), .ref (ad (k + 449)), .ref (ad (k + 454)), .null, .null, .null, .null, .ref (ad (k + 31)), .null, .int (iZ (0)), .int (iZ (0)), .int (iZ (0)), .int (iZ (0)), .int (iZ (0))])) := ⟨_, rfl⟩
        have hP : va_P D vwCl (pw (k + 459) ad G_157) H := by rw [hg157]; exact hP
        have hD : va_D A (pw (k + 459) ad G_157) := by rw [hg157]; exact hD
        have ho157 : ∀ i8 : Nat, i8 ≠ k → G_157 i8 = G i8 := fun i8 hk => by rw [hg157]; exact zu_n _ _ hk
        have he157 : G_157 (k) = .inr (2, [.ref (ad (k + 1)), .ref (ad (k + 28)), .ref (ad (k + 29)), .ref (ad (k + 30)), .ref (ad (k + 449)), .ref (ad (k + 454)), .null, .null, .null, .null, .ref (ad (k + 31)), .null, .int (iZ (0)), .int (iZ (0)), .int (iZ (0)), .int (iZ (0)), .int (iZ (0))]) := by rw [hg157]; exact zu_s _ _ _
        have k157_0 : G_157 (k + 449) = .inr (6, [.ref (ad (k + 449 + 1)), .ref (ad (k + 449 + 3)), .int (iZ (sg139))]) := (ho157 (k + 449) (by omega)).trans (k154_0)
        have k157_2 : G_157 (k + 454) = .inr (6, [.ref (ad (k + 454 + 1)), .ref (ad (k + 454 + 3)), .int (iZ (sg154))]) := (ho157 (k + 454) (by omega)).trans (hsg154)
        have hlo : ∀ i : Nat, i < k → ad i = ad0 i ∧ G_157 i = G0 i := fun i hi => ⟨((show ad (i) = ad (i) ∧ G_157 (i) = G (i) from ⟨rfl, ho157 (i) (by omega)⟩)).1.trans (hlo i hi).1, ((show ad (i) = ad (i) ∧ G_157 (i) = G (i) from ⟨rfl, ho157 (i) (by omega)⟩)).2.trans (hlo i hi).2⟩
        have har : kAr cI ad G_157 (k + 1) := har.mv (fun i h1 h2 => ⟨rfl, ho157 i (by omega)⟩)
        have hrr : kRf cR ad G_157 (k + 28) 6 6 (k + 32) 66 := hrr.mv ((show ad (k + 28) = ad (k + 28) ∧ G_157 (k + 28) = G (k + 28) from ⟨rfl, ho157 (k + 28) (by omega)⟩)).2 (fun j9 h9 => ((show ad (k + 32 + 66 * j9) = ad (k + 32 + 66 * j9) ∧ G_157 (k + 32 + 66 * j9) = G (k + 32 + 66 * j9) from ⟨rfl, ho157 (k + 32 + 66 * j9) (by omega)⟩)).1)
        have hru : kRf cF ad G_157 (k + 29) 6 6 (k + 93) 66 := hru.mv ((show ad (k + 29) = ad (k + 29) ∧ G_157 (k + 29) = G (k + 29) from ⟨rfl, ho157 (k + 29) (by omega)⟩)).2 (fun j9 h9 => ((show ad (k + 93 + 66 * j9) = ad (k + 93 + 66 * j9) ∧ G_157 (k + 93 + 66 * j9) = G (k + 93 + 66 * j9) from ⟨rfl, ho157 (k + 93 + 66 * j9) (by omega)⟩)).1)
        have hpr : ∃ PR : Nat → Int, G_157 (k + 30) = aI cI 6 PR := by obtain ⟨PR, h⟩ := hpr; exact ⟨PR, ((show ad (k + 30) = ad (k + 30) ∧ G_157 (k + 30) = G (k + 30) from ⟨rfl, ho157 (k + 30) (by omega)⟩)).2.trans h⟩
        have hta0 : kRf cE ad G_157 (k + 31) 7 7 (k + 428) 3 := hta0.mv ((show ad (k + 31) = ad (k + 31) ∧ G_157 (k + 31) = G (k + 31) from ⟨rfl, ho157 (k + 31) (by omega)⟩)).2 (fun j9 h9 => ((show ad (k + 428 + 3 * j9) = ad (k + 428 + 3 * j9) ∧ G_157 (k + 428 + 3 * j9) = G (k + 428 + 3 * j9) from ⟨rfl, ho157 (k + 428 + 3 * j9) (by omega)⟩)).1)
        have hro : ∀ q9 : Nat, q9 < 6 → kRo cI cE cF ad G_157 (k + 32 + 66 * q9) ∧ pFh cI ad G_157 (k + 93 + 66 * q9) 46 := fun q9 h9 => ⟨(hro q9 h9).1.mv (fun i h1 h2 => ⟨rfl, ho157 i (by omega)⟩), (hro q9 h9).2.mv (fun i h1 h2 => ⟨rfl, ho157 i (by omega)⟩)⟩
        have hej : ∀ j9 : Nat, j9 < 7 → pEh cI ad G_157 (k + 428 + 3 * j9) 46 := fun j9 h9 => (hej j9 h9).mv (fun i h1 h2 => ⟨rfl, ho157 i (by omega)⟩)
        have pf139 : pFh cI ad G_157 (k + 449) (46) := pf139.mv (fun i h1 h2 => ⟨rfl, ho157 i (by omega)⟩)
        have pf154 : pFh cI ad G_157 (k + 454) (46) := pf154.mv (fun i h1 h2 => ⟨rfl, ho157 i (by omega)⟩)
        refine lv_aload_n hx hb dX2_init_160 rfl (lv_at hl 1 rfl) ?_
        refine zk_new (D := D) (C := RX9) (T := TX9) (N := 2) (ci := 9) hx hb hts hin9 tyX9 tyX9_ok hown q_classLink_RX2_54_RX9 q_instantiable_RX9_2 q_initialized_RX9 hK hP hD hS hA rfl [.null, .int (iZ (0))] (hfX9) (by show _ ≤ 467; omega) (by show _ ≤ 12268; omega) dX2_init_161 (fun ad G H ha161 hn161 hP hD hS => ?_)
        have hl : lv_has ls 2 [(1, .int (iZ (((7 : Nat) : Int)))), (0, .ref (ad (k)))] := by rw [(ha161 (k) (by omega)).1]; exact hl
        refine zk_st [.ref (ad (k + 459)), .ref (ad (k))] (by rw [(ha161 (k) (by omega)).1]) ?_
        have k161_0 : G (k + 449) = .inr (6, [.ref (ad (k + 449 + 1)), .ref (ad (k + 449 + 3)), .int (iZ (sg139))]) := by rw [(ha161 (k + 449) (by omega)).2, k157_0, (ha161 (k + 449 + 1) (by omega)).1, (ha161 (k + 449 + 3) (by omega)).1]
        have k161_1 : G (k + 454) = .inr (6, [.ref (ad (k + 454 + 1)), .ref (ad (k + 454 + 3)), .int (iZ (sg154))]) := by rw [(ha161 (k + 454) (by omega)).2, k157_2, (ha161 (k + 454 + 1) (by omega)).1, (ha161 (k + 454 + 3) (by omega)).1]
        have k161_2 : G (k) = .inr (2, [.ref (ad (k + 1)), .ref (ad (k + 28)), .ref (ad (k + 29)), .ref (ad (k + 30)), .ref (ad (k + 449)), .ref (ad (k + 454)), .null, .null, .null, .null, .ref (ad (k + 31)), .null, .int (iZ (0)), .int (iZ (0)), .int (iZ (0)), .int (iZ (0)), .int (iZ (0))]) := by rw [(ha161 (k) (by omega)).2, he157, (ha161 (k + 1) (by omega)).1, (ha161 (k + 28) (by omega)).1, (ha161 (k + 29) (by omega)).1, (ha161 (k + 30) (by omega)).1, (ha161 (k + 31) (by omega)).1, (ha161 (k + 449) (by omega)).1, (ha161 (k + 454) (by omega)).1]
        have hlo : ∀ i : Nat, i < k → ad i = ad0 i ∧ G i = G0 i := fun i hi => ⟨((ha161 (i) (by omega))).1.trans (hlo i hi).1, ((ha161 (i) (by omega))).2.trans (hlo i hi).2⟩
        have hak : ad k = ad0 k := ((ha161 (k) (by omega))).1.trans hak
        have har : kAr cI ad G (k + 1) := har.mv (fun i h1 h2 => ha161 i (by omega))
        have hrr : kRf cR ad G (k + 28) 6 6 (k + 32) 66 := hrr.mv ((ha161 (k + 28) (by omega))).2 (fun j9 h9 => ((ha161 (k + 32 + 66 * j9) (by omega))).1)
        have hru : kRf cF ad G (k + 29) 6 6 (k + 93) 66 := hru.mv ((ha161 (k + 29) (by omega))).2 (fun j9 h9 => ((ha161 (k + 93 + 66 * j9) (by omega))).1)
        have hpr : ∃ PR : Nat → Int, G (k + 30) = aI cI 6 PR := by obtain ⟨PR, h⟩ := hpr; exact ⟨PR, ((ha161 (k + 30) (by omega))).2.trans h⟩
        have hta0 : kRf cE ad G (k + 31) 7 7 (k + 428) 3 := hta0.mv ((ha161 (k + 31) (by omega))).2 (fun j9 h9 => ((ha161 (k + 428 + 3 * j9) (by omega))).1)
        have hro : ∀ q9 : Nat, q9 < 6 → kRo cI cE cF ad G (k + 32 + 66 * q9) ∧ pFh cI ad G (k + 93 + 66 * q9) 46 := fun q9 h9 => ⟨(hro q9 h9).1.mv (fun i h1 h2 => ha161 i (by omega)), (hro q9 h9).2.mv (fun i h1 h2 => ha161 i (by omega))⟩
        have hej : ∀ j9 : Nat, j9 < 7 → pEh cI ad G (k + 428 + 3 * j9) 46 := fun j9 h9 => (hej j9 h9).mv (fun i h1 h2 => ha161 i (by omega))
        have pf139 : pFh cI ad G (k + 449) (46) := pf139.mv (fun i h1 h2 => ha161 i (by omega))
        have pf154 : pFh cI ad G (k + 454) (46) := pf154.mv (fun i h1 h2 => ha161 i (by omega))
        have hP : va_P D vwCl (pw (k + 460) ad G) H := by rw [show k + 460 = k + 459 + 1 by omega]; exact hP
        have hD : va_D A (pw (k + 460) ad G) := by rw [show k + 460 = k + 459 + 1 by omega]; exact hD
        refine lv_dup hx hb dX2_init_164 rfl ?_
        refine lv_bipush (v := iZ 96) hx hb dX2_init_165 (by decide) ?_
        refine zc_Kv (As := [.int (iZ (96))]) (rest := [.ref (ad (k + 459)), .ref (ad (k))]) ⟨hx, hb, hml, hown, hts⟩ (k_whole l D cI cJ cE cF cR (_) (k + 459) ad G (by omega) (96) (by omega) (by omega) (hn161)) (cwI 1 hts gX2_init_X9_init rfl rfl rfl q_initialized_RX9 q_methodLink_RX2_56_yX9_init q_instanceMethod_yX9_init rfl (by decide +kernel) ⟨Nat.le_of_ble_eq_true rfl, Nat.le_of_ble_eq_true rfl⟩) hN hAO hK hP hD hS hA rfl hl.1 (Nat.le_of_ble_eq_true rfl) dX2_init_167 ⟨by show _ ≤ 467; omega, by show _ ≤ 12268; omega⟩ (fun ad G H locs ha167 hao167 pw167 hP hD hS => ?_)
        have hl : lv_has ls 2 [(1, .int (iZ (((7 : Nat) : Int)))), (0, .ref (ad (k)))] := by rw [(ha167 (k) (by omega)).1]; exact hl
        refine zk_st [.ref (ad (k + 459)), .ref (ad (k))] (by rw [(ha167 (k) (by omega)).1, hao167]) ?_
        have k167_0 : G (k + 449) = .inr (6, [.ref (ad (k + 449 + 1)), .ref (ad (k + 449 + 3)), .int (iZ (sg139))]) := by rw [(ha167 (k + 449) (by omega)).2, k161_0, (ha167 (k + 449 + 1) (by omega)).1, (ha167 (k + 449 + 3) (by omega)).1]
        have k167_1 : G (k + 454) = .inr (6, [.ref (ad (k + 454 + 1)), .ref (ad (k + 454 + 3)), .int (iZ (sg154))]) := by rw [(ha167 (k + 454) (by omega)).2, k161_1, (ha167 (k + 454 + 1) (by omega)).1, (ha167 (k + 454 + 3) (by omega)).1]
        have k167_2 : G (k) = .inr (2, [.ref (ad (k + 1)), .ref (ad (k + 28)), .ref (ad (k + 29)), .ref (ad (k + 30)), .ref (ad (k + 449)), .ref (ad (k + 454)), .null, .null, .null, .null, .ref (ad (k + 31)), .null, .int (iZ (0)), .int (iZ (0)), .int (iZ (0)), .int (iZ (0)), .int (iZ (0))]) := by rw [(ha167 (k) (by omega)).2, k161_2, (ha167 (k + 1) (by omega)).1, (ha167 (k + 28) (by omega)).1, (ha167 (k + 29) (by omega)).1, (ha167 (k + 30) (by omega)).1, (ha167 (k + 31) (by omega)).1, (ha167 (k + 449) (by omega)).1, (ha167 (k + 454) (by omega)).1]
        have hlo : ∀ i : Nat, i < k → ad i = ad0 i ∧ G i = G0 i := fun i hi => ⟨((ha167 (i) (by omega))).1.trans (hlo i hi).1, ((ha167 (i) (by omega))).2.trans (hlo i hi).2⟩
        have hak : ad k = ad0 k := ((ha167 (k) (by omega))).1.trans hak
        have har : kAr cI ad G (k + 1) := har.mv (fun i h1 h2 => ha167 i (by omega))
        have hrr : kRf cR ad G (k + 28) 6 6 (k + 32) 66 := hrr.mv ((ha167 (k + 28) (by omega))).2 (fun j9 h9 => ((ha167 (k + 32 + 66 * j9) (by omega))).1)
        have hru : kRf cF ad G (k + 29) 6 6 (k + 93) 66 := hru.mv ((ha167 (k + 29) (by omega))).2 (fun j9 h9 => ((ha167 (k + 93 + 66 * j9) (by omega))).1)
        have hpr : ∃ PR : Nat → Int, G (k + 30) = aI cI 6 PR := by obtain ⟨PR, h⟩ := hpr; exact ⟨PR, ((ha167 (k + 30) (by omega))).2.trans h⟩
        have hta0 : kRf cE ad G (k + 31) 7 7 (k + 428) 3 := hta0.mv ((ha167 (k + 31) (by omega))).2 (fun j9 h9 => ((ha167 (k + 428 + 3 * j9) (by omega))).1)
        have hro : ∀ q9 : Nat, q9 < 6 → kRo cI cE cF ad G (k + 32 + 66 * q9) ∧ pFh cI ad G (k + 93 + 66 * q9) 46 := fun q9 h9 => ⟨(hro q9 h9).1.mv (fun i h1 h2 => ha167 i (by omega)), (hro q9 h9).2.mv (fun i h1 h2 => ha167 i (by omega))⟩
        have hej : ∀ j9 : Nat, j9 < 7 → pEh cI ad G (k + 428 + 3 * j9) 46 := fun j9 h9 => (hej j9 h9).mv (fun i h1 h2 => ha167 i (by omega))
        have pf139 : pFh cI ad G (k + 449) (46) := pf139.mv (fun i h1 h2 => ha167 i (by omega))
        have pf154 : pFh cI ad G (k + 454) (46) := pf154.mv (fun i h1 h2 => ha167 i (by omega))
        have hP : va_P D vwCl (pw (k + 461) ad G) H := by rw [show k + 461 = k + 459 + 2 by omega]; exact hP
        have hD : va_D A (pw (k + 461) ad G) := by rw [show k + 461 = k + 459 + 2 by omega]; exact hD
        have pw167 : pHas cI ad G (k + 459) (96) := pw167
        refine va_putF (D := D) (ci := 2) (v := .ref (ad (k + 459))) (ty := tyX2 6) (C := RX2) (T := TX2) (N := 17) hx hb hts hin2 tyX2 tyX2_ok nmX2 hown hK hP hD hS (k) (pw_at (by omega) (k167_2)) rfl 6 (by decide) q_f_RX2_57_Elimination_plus_LWhole (fun _ h9 => h9) rfl hnm rfl (tyX2_ok 6 (by decide)) rfl rfl (Nat.le_of_ble_eq_true rfl) dX2_init_170 (fun H locs hP hD hS => ?_)
        rw [pw_set] at hP hD
        obtain ⟨G_170, hg170⟩ : ∃ g : Nat → va_E, g = zu G (k) (.inr (2, [.ref (ad (k + 1)), .ref (ad (k + 28)), .ref (ad (k + 29)), .ref (ad (k + 30)), .ref (ad (k + 449)), .ref (ad (k + 454)), .ref (ad (k + 459)), .null, .null, .null, .ref (ad (k + 31)), .null, .int (iZ (0)), .int (iZ (0)), .int (iZ (0)), .int (iZ (0)), .int (iZ (0))])) := ⟨_, rfl⟩
        have hP : va_P D vwCl (pw (k + 461) ad G_170) H := by rw [hg170]; exact hP
        have hD : va_D A (pw (k + 461) ad G_170) := by rw [hg170]; exact hD
        have ho170 : ∀ i8 : Nat, i8 ≠ k → G_170 i8 = G i8 := fun i8 hk => by rw [hg170]; exact zu_n _ _ hk
        have he170 : G_170 (k) = .inr (2, [.ref (ad (k + 1)), .ref (ad (k + 28)), .ref (ad (k + 29)), .ref (ad (k + 30)), .ref (ad (k + 449)), .ref (ad (k + 454)), .ref (ad (k + 459)), .null, .null, .null, .ref (ad (k + 31)), .null, .int (iZ (0)), .int (iZ (0)), .int (iZ (0)), .int (iZ (0)), .int (iZ (0))]) := by rw [hg170]; exact zu_s _ _ _
        have k170_0 : G_170 (k + 449) = .inr (6, [.ref (ad (k + 449 + 1)), .ref (ad (k + 449 + 3)), .int (iZ (sg139))]) := (ho170 (k + 449) (by omega)).trans (k167_0)
        have k170_1 : G_170 (k + 454) = .inr (6, [.ref (ad (k + 454 + 1)), .ref (ad (k + 454 + 3)), .int (iZ (sg154))]) := (ho170 (k + 454) (by omega)).trans (k167_1)
        have hlo : ∀ i : Nat, i < k → ad i = ad0 i ∧ G_170 i = G0 i := fun i hi => ⟨((show ad (i) = ad (i) ∧ G_170 (i) = G (i) from ⟨rfl, ho170 (i) (by omega)⟩)).1.trans (hlo i hi).1, ((show ad (i) = ad (i) ∧ G_170 (i) = G (i) from ⟨rfl, ho170 (i) (by omega)⟩)).2.trans (hlo i hi).2⟩
        have har : kAr cI ad G_170 (k + 1) := har.mv (fun i h1 h2 => ⟨rfl, ho170 i (by omega)⟩)
        have hrr : kRf cR ad G_170 (k + 28) 6 6 (k + 32) 66 := hrr.mv ((show ad (k + 28) = ad (k + 28) ∧ G_170 (k + 28) = G (k + 28) from ⟨rfl, ho170 (k + 28) (by omega)⟩)).2 (fun j9 h9 => ((show ad (k + 32 + 66 * j9) = ad (k + 32 + 66 * j9) ∧ G_170 (k + 32 + 66 * j9) = G (k + 32 + 66 * j9) from ⟨rfl, ho170 (k + 32 + 66 * j9) (by omega)⟩)).1)
        have hru : kRf cF ad G_170 (k + 29) 6 6 (k + 93) 66 := hru.mv ((show ad (k + 29) = ad (k + 29) ∧ G_170 (k + 29) = G (k + 29) from ⟨rfl, ho170 (k + 29) (by omega)⟩)).2 (fun j9 h9 => ((show ad (k + 93 + 66 * j9) = ad (k + 93 + 66 * j9) ∧ G_170 (k + 93 + 66 * j9) = G (k + 93 + 66 * j9) from ⟨rfl, ho170 (k + 93 + 66 * j9) (by omega)⟩)).1)
        have hpr : ∃ PR : Nat → Int, G_170 (k + 30) = aI cI 6 PR := by obtain ⟨PR, h⟩ := hpr; exact ⟨PR, ((show ad (k + 30) = ad (k + 30) ∧ G_170 (k + 30) = G (k + 30) from ⟨rfl, ho170 (k + 30) (by omega)⟩)).2.trans h⟩
        have hta0 : kRf cE ad G_170 (k + 31) 7 7 (k + 428) 3 := hta0.mv ((show ad (k + 31) = ad (k + 31) ∧ G_170 (k + 31) = G (k + 31) from ⟨rfl, ho170 (k + 31) (by omega)⟩)).2 (fun j9 h9 => ((show ad (k + 428 + 3 * j9) = ad (k + 428 + 3 * j9) ∧ G_170 (k + 428 + 3 * j9) = G (k + 428 + 3 * j9) from ⟨rfl, ho170 (k + 428 + 3 * j9) (by omega)⟩)).1)
        have hro : ∀ q9 : Nat, q9 < 6 → kRo cI cE cF ad G_170 (k + 32 + 66 * q9) ∧ pFh cI ad G_170 (k + 93 + 66 * q9) 46 := fun q9 h9 => ⟨(hro q9 h9).1.mv (fun i h1 h2 => ⟨rfl, ho170 i (by omega)⟩), (hro q9 h9).2.mv (fun i h1 h2 => ⟨rfl, ho170 i (by omega)⟩)⟩
        have hej : ∀ j9 : Nat, j9 < 7 → pEh cI ad G_170 (k + 428 + 3 * j9) 46 := fun j9 h9 => (hej j9 h9).mv (fun i h1 h2 => ⟨rfl, ho170 i (by omega)⟩)
        have pf139 : pFh cI ad G_170 (k + 449) (46) := pf139.mv (fun i h1 h2 => ⟨rfl, ho170 i (by omega)⟩)
        have pf154 : pFh cI ad G_170 (k + 454) (46) := pf154.mv (fun i h1 h2 => ⟨rfl, ho170 i (by omega)⟩)
        have pw167 : pHas cI ad G_170 (k + 459) (96) := pw167.mv (fun i h1 h2 => ⟨rfl, ho170 i (by omega)⟩)
        refine lv_aload_n hx hb dX2_init_173 rfl (lv_at hl 1 rfl) ?_
        refine zk_new (D := D) (C := RX9) (T := TX9) (N := 2) (ci := 9) hx hb hts hin9 tyX9 tyX9_ok hown q_classLink_RX2_54_RX9 q_instantiable_RX9_2 q_initialized_RX9 hK hP hD hS hA rfl [.null, .int (iZ (0))] (hfX9) (by show _ ≤ 467; omega) (by show _ ≤ 12268; omega) dX2_init_174 (fun ad G H ha174 hn174 hP hD hS => ?_)
        have hl : lv_has ls 2 [(1, .int (iZ (((7 : Nat) : Int)))), (0, .ref (ad (k)))] := by rw [(ha174 (k) (by omega)).1]; exact hl
        refine zk_st [.ref (ad (k + 461)), .ref (ad (k))] (by rw [(ha174 (k) (by omega)).1]) ?_
        have k174_0 : G (k + 449) = .inr (6, [.ref (ad (k + 449 + 1)), .ref (ad (k + 449 + 3)), .int (iZ (sg139))]) := by rw [(ha174 (k + 449) (by omega)).2, k170_0, (ha174 (k + 449 + 1) (by omega)).1, (ha174 (k + 449 + 3) (by omega)).1]
        have k174_1 : G (k + 454) = .inr (6, [.ref (ad (k + 454 + 1)), .ref (ad (k + 454 + 3)), .int (iZ (sg154))]) := by rw [(ha174 (k + 454) (by omega)).2, k170_1, (ha174 (k + 454 + 1) (by omega)).1, (ha174 (k + 454 + 3) (by omega)).1]
        have k174_2 : G (k) = .inr (2, [.ref (ad (k + 1)), .ref (ad (k + 28)), .ref (ad (k + 29)), .ref (ad (k + 30)), .ref (ad (k + 449)), .ref (ad (k + 454)), .ref (ad (k + 459)), .null, .null, .null, .ref (ad (k + 31)), .null, .int (iZ (0)), .int (iZ (0)), .int (iZ (0)), .int (iZ (0)), .int (iZ (0))]) := by rw [(ha174 (k) (by omega)).2, he170, (ha174 (k + 1) (by omega)).1, (ha174 (k + 28) (by omega)).1, (ha174 (k + 29) (by omega)).1, (ha174 (k + 30) (by omega)).1, (ha174 (k + 31) (by omega)).1, (ha174 (k + 449) (by omega)).1, (ha174 (k + 454) (by omega)).1, (ha174 (k + 459) (by omega)).1]
        have hlo : ∀ i : Nat, i < k → ad i = ad0 i ∧ G i = G0 i := fun i hi => ⟨((ha174 (i) (by omega))).1.trans (hlo i hi).1, ((ha174 (i) (by omega))).2.trans (hlo i hi).2⟩
        have hak : ad k = ad0 k := ((ha174 (k) (by omega))).1.trans hak
        have har : kAr cI ad G (k + 1) := har.mv (fun i h1 h2 => ha174 i (by omega))
        have hrr : kRf cR ad G (k + 28) 6 6 (k + 32) 66 := hrr.mv ((ha174 (k + 28) (by omega))).2 (fun j9 h9 => ((ha174 (k + 32 + 66 * j9) (by omega))).1)
        have hru : kRf cF ad G (k + 29) 6 6 (k + 93) 66 := hru.mv ((ha174 (k + 29) (by omega))).2 (fun j9 h9 => ((ha174 (k + 93 + 66 * j9) (by omega))).1)
        have hpr : ∃ PR : Nat → Int, G (k + 30) = aI cI 6 PR := by obtain ⟨PR, h⟩ := hpr; exact ⟨PR, ((ha174 (k + 30) (by omega))).2.trans h⟩
        have hta0 : kRf cE ad G (k + 31) 7 7 (k + 428) 3 := hta0.mv ((ha174 (k + 31) (by omega))).2 (fun j9 h9 => ((ha174 (k + 428 + 3 * j9) (by omega))).1)
        have hro : ∀ q9 : Nat, q9 < 6 → kRo cI cE cF ad G (k + 32 + 66 * q9) ∧ pFh cI ad G (k + 93 + 66 * q9) 46 := fun q9 h9 => ⟨(hro q9 h9).1.mv (fun i h1 h2 => ha174 i (by omega)), (hro q9 h9).2.mv (fun i h1 h2 => ha174 i (by omega))⟩
        have hej : ∀ j9 : Nat, j9 < 7 → pEh cI ad G (k + 428 + 3 * j9) 46 := fun j9 h9 => (hej j9 h9).mv (fun i h1 h2 => ha174 i (by omega))
        have pf139 : pFh cI ad G (k + 449) (46) := pf139.mv (fun i h1 h2 => ha174 i (by omega))
        have pf154 : pFh cI ad G (k + 454) (46) := pf154.mv (fun i h1 h2 => ha174 i (by omega))
        have pw167 : pHas cI ad G (k + 459) (96) := pw167.mv (fun i h1 h2 => ha174 i (by omega))
        have hP : va_P D vwCl (pw (k + 462) ad G) H := by rw [show k + 462 = k + 461 + 1 by omega]; exact hP
        have hD : va_D A (pw (k + 462) ad G) := by rw [show k + 462 = k + 461 + 1 by omega]; exact hD
        refine lv_dup hx hb dX2_init_177 rfl ?_
        refine lv_bipush (v := iZ 96) hx hb dX2_init_178 (by decide) ?_
        refine zc_Kv (As := [.int (iZ (96))]) (rest := [.ref (ad (k + 461)), .ref (ad (k))]) ⟨hx, hb, hml, hown, hts⟩ (k_whole l D cI cJ cE cF cR (_) (k + 461) ad G (by omega) (96) (by omega) (by omega) (hn174)) (cwI 1 hts gX2_init_X9_init rfl rfl rfl q_initialized_RX9 q_methodLink_RX2_56_yX9_init q_instanceMethod_yX9_init rfl (by decide +kernel) ⟨Nat.le_of_ble_eq_true rfl, Nat.le_of_ble_eq_true rfl⟩) hN hAO hK hP hD hS hA rfl hl.1 (Nat.le_of_ble_eq_true rfl) dX2_init_180 ⟨by show _ ≤ 467; omega, by show _ ≤ 12268; omega⟩ (fun ad G H locs ha180 hao180 pw180 hP hD hS => ?_)
        have hl : lv_has ls 2 [(1, .int (iZ (((7 : Nat) : Int)))), (0, .ref (ad (k)))] := by rw [(ha180 (k) (by omega)).1]; exact hl
        refine zk_st [.ref (ad (k + 461)), .ref (ad (k))] (by rw [(ha180 (k) (by omega)).1, hao180]) ?_
        have k180_0 : G (k + 449) = .inr (6, [.ref (ad (k + 449 + 1)), .ref (ad (k + 449 + 3)), .int (iZ (sg139))]) := by rw [(ha180 (k + 449) (by omega)).2, k174_0, (ha180 (k + 449 + 1) (by omega)).1, (ha180 (k + 449 + 3) (by omega)).1]
        have k180_1 : G (k + 454) = .inr (6, [.ref (ad (k + 454 + 1)), .ref (ad (k + 454 + 3)), .int (iZ (sg154))]) := by rw [(ha180 (k + 454) (by omega)).2, k174_1, (ha180 (k + 454 + 1) (by omega)).1, (ha180 (k + 454 + 3) (by omega)).1]
        have k180_2 : G (k) = .inr (2, [.ref (ad (k + 1)), .ref (ad (k + 28)), .ref (ad (k + 29)), .ref (ad (k + 30)), .ref (ad (k + 449)), .ref (ad (k + 454)), .ref (ad (k + 459)), .null, .null, .null, .ref (ad (k + 31)), .null, .int (iZ (0)), .int (iZ (0)), .int (iZ (0)), .int (iZ (0)), .int (iZ (0))]) := by rw [(ha180 (k) (by omega)).2, k174_2, (ha180 (k + 1) (by omega)).1, (ha180 (k + 28) (by omega)).1, (ha180 (k + 29) (by omega)).1, (ha180 (k + 30) (by omega)).1, (ha180 (k + 31) (by omega)).1, (ha180 (k + 449) (by omega)).1, (ha180 (k + 454) (by omega)).1, (ha180 (k + 459) (by omega)).1]
        have hlo : ∀ i : Nat, i < k → ad i = ad0 i ∧ G i = G0 i := fun i hi => ⟨((ha180 (i) (by omega))).1.trans (hlo i hi).1, ((ha180 (i) (by omega))).2.trans (hlo i hi).2⟩
        have hak : ad k = ad0 k := ((ha180 (k) (by omega))).1.trans hak
        have har : kAr cI ad G (k + 1) := har.mv (fun i h1 h2 => ha180 i (by omega))
        have hrr : kRf cR ad G (k + 28) 6 6 (k + 32) 66 := hrr.mv ((ha180 (k + 28) (by omega))).2 (fun j9 h9 => ((ha180 (k + 32 + 66 * j9) (by omega))).1)
        have hru : kRf cF ad G (k + 29) 6 6 (k + 93) 66 := hru.mv ((ha180 (k + 29) (by omega))).2 (fun j9 h9 => ((ha180 (k + 93 + 66 * j9) (by omega))).1)
        have hpr : ∃ PR : Nat → Int, G (k + 30) = aI cI 6 PR := by obtain ⟨PR, h⟩ := hpr; exact ⟨PR, ((ha180 (k + 30) (by omega))).2.trans h⟩
        have hta0 : kRf cE ad G (k + 31) 7 7 (k + 428) 3 := hta0.mv ((ha180 (k + 31) (by omega))).2 (fun j9 h9 => ((ha180 (k + 428 + 3 * j9) (by omega))).1)
        have hro : ∀ q9 : Nat, q9 < 6 → kRo cI cE cF ad G (k + 32 + 66 * q9) ∧ pFh cI ad G (k + 93 + 66 * q9) 46 := fun q9 h9 => ⟨(hro q9 h9).1.mv (fun i h1 h2 => ha180 i (by omega)), (hro q9 h9).2.mv (fun i h1 h2 => ha180 i (by omega))⟩
        have hej : ∀ j9 : Nat, j9 < 7 → pEh cI ad G (k + 428 + 3 * j9) 46 := fun j9 h9 => (hej j9 h9).mv (fun i h1 h2 => ha180 i (by omega))
        have pf139 : pFh cI ad G (k + 449) (46) := pf139.mv (fun i h1 h2 => ha180 i (by omega))
        have pf154 : pFh cI ad G (k + 454) (46) := pf154.mv (fun i h1 h2 => ha180 i (by omega))
        have pw167 : pHas cI ad G (k + 459) (96) := pw167.mv (fun i h1 h2 => ha180 i (by omega))
        have hP : va_P D vwCl (pw (k + 463) ad G) H := by rw [show k + 463 = k + 461 + 2 by omega]; exact hP
        have hD : va_D A (pw (k + 463) ad G) := by rw [show k + 463 = k + 461 + 2 by omega]; exact hD
        have pw180 : pHas cI ad G (k + 461) (96) := pw180
        refine va_putF (D := D) (ci := 2) (v := .ref (ad (k + 461))) (ty := tyX2 7) (C := RX2) (T := TX2) (N := 17) hx hb hts hin2 tyX2 tyX2_ok nmX2 hown hK hP hD hS (k) (pw_at (by omega) (k180_2)) rfl 7 (by decide) q_f_RX2_61_Elimination_minus_LWhole (fun _ h9 => h9) rfl hnm rfl (tyX2_ok 7 (by decide)) rfl rfl (Nat.le_of_ble_eq_true rfl) dX2_init_183 (fun H locs hP hD hS => ?_)
        rw [pw_set] at hP hD
        obtain ⟨G_183, hg183⟩ : ∃ g : Nat → va_E, g = zu G (k) (.inr (2, [.ref (ad (k + 1)), .ref (ad (k + 28)), .ref (ad (k + 29)), .ref (ad (k + 30)), .ref (ad (k + 449)), .ref (ad (k + 454)), .ref (ad (k + 459)), .ref (ad (k + 461)), .null, .null, .ref (ad (k + 31)), .null, .int (iZ (0)), .int (iZ (0)), .int (iZ (0)), .int (iZ (0)), .int (iZ (0))])) := ⟨_, rfl⟩
        have hP : va_P D vwCl (pw (k + 463) ad G_183) H := by rw [hg183]; exact hP
        have hD : va_D A (pw (k + 463) ad G_183) := by rw [hg183]; exact hD
        have ho183 : ∀ i8 : Nat, i8 ≠ k → G_183 i8 = G i8 := fun i8 hk => by rw [hg183]; exact zu_n _ _ hk
        have he183 : G_183 (k) = .inr (2, [.ref (ad (k + 1)), .ref (ad (k + 28)), .ref (ad (k + 29)), .ref (ad (k + 30)), .ref (ad (k + 449)), .ref (ad (k + 454)), .ref (ad (k + 459)), .ref (ad (k + 461)), .null, .null, .ref (ad (k + 31)), .null, .int (iZ (0)), .int (iZ (0)), .int (iZ (0)), .int (iZ (0)), .int (iZ (0))]) := by rw [hg183]; exact zu_s _ _ _
        have k183_0 : G_183 (k + 449) = .inr (6, [.ref (ad (k + 449 + 1)), .ref (ad (k + 449 + 3)), .int (iZ (sg139))]) := (ho183 (k + 449) (by omega)).trans (k180_0)
        have k183_1 : G_183 (k + 454) = .inr (6, [.ref (ad (k + 454 + 1)), .ref (ad (k + 454 + 3)), .int (iZ (sg154))]) := (ho183 (k + 454) (by omega)).trans (k180_1)
        have hlo : ∀ i : Nat, i < k → ad i = ad0 i ∧ G_183 i = G0 i := fun i hi => ⟨((show ad (i) = ad (i) ∧ G_183 (i) = G (i) from ⟨rfl, ho183 (i) (by omega)⟩)).1.trans (hlo i hi).1, ((show ad (i) = ad (i) ∧ G_183 (i) = G (i) from ⟨rfl, ho183 (i) (by omega)⟩)).2.trans (hlo i hi).2⟩
        have har : kAr cI ad G_183 (k + 1) := har.mv (fun i h1 h2 => ⟨rfl, ho183 i (by omega)⟩)
        have hrr : kRf cR ad G_183 (k + 28) 6 6 (k + 32) 66 := hrr.mv ((show ad (k + 28) = ad (k + 28) ∧ G_183 (k + 28) = G (k + 28) from ⟨rfl, ho183 (k + 28) (by omega)⟩)).2 (fun j9 h9 => ((show ad (k + 32 + 66 * j9) = ad (k + 32 + 66 * j9) ∧ G_183 (k + 32 + 66 * j9) = G (k + 32 + 66 * j9) from ⟨rfl, ho183 (k + 32 + 66 * j9) (by omega)⟩)).1)
        have hru : kRf cF ad G_183 (k + 29) 6 6 (k + 93) 66 := hru.mv ((show ad (k + 29) = ad (k + 29) ∧ G_183 (k + 29) = G (k + 29) from ⟨rfl, ho183 (k + 29) (by omega)⟩)).2 (fun j9 h9 => ((show ad (k + 93 + 66 * j9) = ad (k + 93 + 66 * j9) ∧ G_183 (k + 93 + 66 * j9) = G (k + 93 + 66 * j9) from ⟨rfl, ho183 (k + 93 + 66 * j9) (by omega)⟩)).1)
        have hpr : ∃ PR : Nat → Int, G_183 (k + 30) = aI cI 6 PR := by obtain ⟨PR, h⟩ := hpr; exact ⟨PR, ((show ad (k + 30) = ad (k + 30) ∧ G_183 (k + 30) = G (k + 30) from ⟨rfl, ho183 (k + 30) (by omega)⟩)).2.trans h⟩
        have hta0 : kRf cE ad G_183 (k + 31) 7 7 (k + 428) 3 := hta0.mv ((show ad (k + 31) = ad (k + 31) ∧ G_183 (k + 31) = G (k + 31) from ⟨rfl, ho183 (k + 31) (by omega)⟩)).2 (fun j9 h9 => ((show ad (k + 428 + 3 * j9) = ad (k + 428 + 3 * j9) ∧ G_183 (k + 428 + 3 * j9) = G (k + 428 + 3 * j9) from ⟨rfl, ho183 (k + 428 + 3 * j9) (by omega)⟩)).1)
        have hro : ∀ q9 : Nat, q9 < 6 → kRo cI cE cF ad G_183 (k + 32 + 66 * q9) ∧ pFh cI ad G_183 (k + 93 + 66 * q9) 46 := fun q9 h9 => ⟨(hro q9 h9).1.mv (fun i h1 h2 => ⟨rfl, ho183 i (by omega)⟩), (hro q9 h9).2.mv (fun i h1 h2 => ⟨rfl, ho183 i (by omega)⟩)⟩
        have hej : ∀ j9 : Nat, j9 < 7 → pEh cI ad G_183 (k + 428 + 3 * j9) 46 := fun j9 h9 => (hej j9 h9).mv (fun i h1 h2 => ⟨rfl, ho183 i (by omega)⟩)
        have pf139 : pFh cI ad G_183 (k + 449) (46) := pf139.mv (fun i h1 h2 => ⟨rfl, ho183 i (by omega)⟩)
        have pf154 : pFh cI ad G_183 (k + 454) (46) := pf154.mv (fun i h1 h2 => ⟨rfl, ho183 i (by omega)⟩)
        have pw167 : pHas cI ad G_183 (k + 459) (96) := pw167.mv (fun i h1 h2 => ⟨rfl, ho183 i (by omega)⟩)
        have pw180 : pHas cI ad G_183 (k + 461) (96) := pw180.mv (fun i h1 h2 => ⟨rfl, ho183 i (by omega)⟩)
        refine lv_aload_n hx hb dX2_init_186 rfl (lv_at hl 1 rfl) ?_
        refine zk_new (D := D) (C := RX9) (T := TX9) (N := 2) (ci := 9) hx hb hts hin9 tyX9 tyX9_ok hown q_classLink_RX2_54_RX9 q_instantiable_RX9_2 q_initialized_RX9 hK hP hD hS hA rfl [.null, .int (iZ (0))] (hfX9) (by show _ ≤ 467; omega) (by show _ ≤ 12268; omega) dX2_init_187 (fun ad G H ha187 hn187 hP hD hS => ?_)
        have hl : lv_has ls 2 [(1, .int (iZ (((7 : Nat) : Int)))), (0, .ref (ad (k)))] := by rw [(ha187 (k) (by omega)).1]; exact hl
        refine zk_st [.ref (ad (k + 463)), .ref (ad (k))] (by rw [(ha187 (k) (by omega)).1]) ?_
        have k187_0 : G (k + 449) = .inr (6, [.ref (ad (k + 449 + 1)), .ref (ad (k + 449 + 3)), .int (iZ (sg139))]) := by rw [(ha187 (k + 449) (by omega)).2, k183_0, (ha187 (k + 449 + 1) (by omega)).1, (ha187 (k + 449 + 3) (by omega)).1]
        have k187_1 : G (k + 454) = .inr (6, [.ref (ad (k + 454 + 1)), .ref (ad (k + 454 + 3)), .int (iZ (sg154))]) := by rw [(ha187 (k + 454) (by omega)).2, k183_1, (ha187 (k + 454 + 1) (by omega)).1, (ha187 (k + 454 + 3) (by omega)).1]
        have k187_2 : G (k) = .inr (2, [.ref (ad (k + 1)), .ref (ad (k + 28)), .ref (ad (k + 29)), .ref (ad (k + 30)), .ref (ad (k + 449)), .ref (ad (k + 454)), .ref (ad (k + 459)), .ref (ad (k + 461)), .null, .null, .ref (ad (k + 31)), .null, .int (iZ (0)), .int (iZ (0)), .int (iZ (0)), .int (iZ (0)), .int (iZ (0))]) := by rw [(ha187 (k) (by omega)).2, he183, (ha187 (k + 1) (by omega)).1, (ha187 (k + 28) (by omega)).1, (ha187 (k + 29) (by omega)).1, (ha187 (k + 30) (by omega)).1, (ha187 (k + 31) (by omega)).1, (ha187 (k + 449) (by omega)).1, (ha187 (k + 454) (by omega)).1, (ha187 (k + 459) (by omega)).1, (ha187 (k + 461) (by omega)).1]
        have hlo : ∀ i : Nat, i < k → ad i = ad0 i ∧ G i = G0 i := fun i hi => ⟨((ha187 (i) (by omega))).1.trans (hlo i hi).1, ((ha187 (i) (by omega))).2.trans (hlo i hi).2⟩
        have hak : ad k = ad0 k := ((ha187 (k) (by omega))).1.trans hak
        have har : kAr cI ad G (k + 1) := har.mv (fun i h1 h2 => ha187 i (by omega))
        have hrr : kRf cR ad G (k + 28) 6 6 (k + 32) 66 := hrr.mv ((ha187 (k + 28) (by omega))).2 (fun j9 h9 => ((ha187 (k + 32 + 66 * j9) (by omega))).1)
        have hru : kRf cF ad G (k + 29) 6 6 (k + 93) 66 := hru.mv ((ha187 (k + 29) (by omega))).2 (fun j9 h9 => ((ha187 (k + 93 + 66 * j9) (by omega))).1)
        have hpr : ∃ PR : Nat → Int, G (k + 30) = aI cI 6 PR := by obtain ⟨PR, h⟩ := hpr; exact ⟨PR, ((ha187 (k + 30) (by omega))).2.trans h⟩
        have hta0 : kRf cE ad G (k + 31) 7 7 (k + 428) 3 := hta0.mv ((ha187 (k + 31) (by omega))).2 (fun j9 h9 => ((ha187 (k + 428 + 3 * j9) (by omega))).1)
        have hro : ∀ q9 : Nat, q9 < 6 → kRo cI cE cF ad G (k + 32 + 66 * q9) ∧ pFh cI ad G (k + 93 + 66 * q9) 46 := fun q9 h9 => ⟨(hro q9 h9).1.mv (fun i h1 h2 => ha187 i (by omega)), (hro q9 h9).2.mv (fun i h1 h2 => ha187 i (by omega))⟩
        have hej : ∀ j9 : Nat, j9 < 7 → pEh cI ad G (k + 428 + 3 * j9) 46 := fun j9 h9 => (hej j9 h9).mv (fun i h1 h2 => ha187 i (by omega))
        have pf139 : pFh cI ad G (k + 449) (46) := pf139.mv (fun i h1 h2 => ha187 i (by omega))
        have pf154 : pFh cI ad G (k + 454) (46) := pf154.mv (fun i h1 h2 => ha187 i (by omega))
        have pw167 : pHas cI ad G (k + 459) (96) := pw167.mv (fun i h1 h2 => ha187 i (by omega))
        have pw180 : pHas cI ad G (k + 461) (96) := pw180.mv (fun i h1 h2 => ha187 i (by omega))
        have hP : va_P D vwCl (pw (k + 464) ad G) H := by rw [show k + 464 = k + 463 + 1 by omega]; exact hP
        have hD : va_D A (pw (k + 464) ad G) := by rw [show k + 464 = k + 463 + 1 by omega]; exact hD
        refine lv_dup hx hb dX2_init_190 rfl ?_
        refine lv_bipush (v := iZ 96) hx hb dX2_init_191 (by decide) ?_
        refine zc_Kv (As := [.int (iZ (96))]) (rest := [.ref (ad (k + 463)), .ref (ad (k))]) ⟨hx, hb, hml, hown, hts⟩ (k_whole l D cI cJ cE cF cR (_) (k + 463) ad G (by omega) (96) (by omega) (by omega) (hn187)) (cwI 1 hts gX2_init_X9_init rfl rfl rfl q_initialized_RX9 q_methodLink_RX2_56_yX9_init q_instanceMethod_yX9_init rfl (by decide +kernel) ⟨Nat.le_of_ble_eq_true rfl, Nat.le_of_ble_eq_true rfl⟩) hN hAO hK hP hD hS hA rfl hl.1 (Nat.le_of_ble_eq_true rfl) dX2_init_193 ⟨by show _ ≤ 467; omega, by show _ ≤ 12268; omega⟩ (fun ad G H locs ha193 hao193 pw193 hP hD hS => ?_)
        have hl : lv_has ls 2 [(1, .int (iZ (((7 : Nat) : Int)))), (0, .ref (ad (k)))] := by rw [(ha193 (k) (by omega)).1]; exact hl
        refine zk_st [.ref (ad (k + 463)), .ref (ad (k))] (by rw [(ha193 (k) (by omega)).1, hao193]) ?_
        have k193_0 : G (k + 449) = .inr (6, [.ref (ad (k + 449 + 1)), .ref (ad (k + 449 + 3)), .int (iZ (sg139))]) := by rw [(ha193 (k + 449) (by omega)).2, k187_0, (ha193 (k + 449 + 1) (by omega)).1, (ha193 (k + 449 + 3) (by omega)).1]
        have k193_1 : G (k + 454) = .inr (6, [.ref (ad (k + 454 + 1)), .ref (ad (k + 454 + 3)), .int (iZ (sg154))]) := by rw [(ha193 (k + 454) (by omega)).2, k187_1, (ha193 (k + 454 + 1) (by omega)).1, (ha193 (k + 454 + 3) (by omega)).1]
        have k193_2 : G (k) = .inr (2, [.ref (ad (k + 1)), .ref (ad (k + 28)), .ref (ad (k + 29)), .ref (ad (k + 30)), .ref (ad (k + 449)), .ref (ad (k + 454)), .ref (ad (k + 459)), .ref (ad (k + 461)), .null, .null, .ref (ad (k + 31)), .null, .int (iZ (0)), .int (iZ (0)), .int (iZ (0)), .int (iZ (0)), .int (iZ (0))]) := by rw [(ha193 (k) (by omega)).2, k187_2, (ha193 (k + 1) (by omega)).1, (ha193 (k + 28) (by omega)).1, (ha193 (k + 29) (by omega)).1, (ha193 (k + 30) (by omega)).1, (ha193 (k + 31) (by omega)).1, (ha193 (k + 449) (by omega)).1, (ha193 (k + 454) (by omega)).1, (ha193 (k + 459) (by omega)).1, (ha193 (k + 461) (by omega)).1]
        have hlo : ∀ i : Nat, i < k → ad i = ad0 i ∧ G i = G0 i := fun i hi => ⟨((ha193 (i) (by omega))).1.trans (hlo i hi).1, ((ha193 (i) (by omega))).2.trans (hlo i hi).2⟩
        have hak : ad k = ad0 k := ((ha193 (k) (by omega))).1.trans hak
        have har : kAr cI ad G (k + 1) := har.mv (fun i h1 h2 => ha193 i (by omega))
        have hrr : kRf cR ad G (k + 28) 6 6 (k + 32) 66 := hrr.mv ((ha193 (k + 28) (by omega))).2 (fun j9 h9 => ((ha193 (k + 32 + 66 * j9) (by omega))).1)
        have hru : kRf cF ad G (k + 29) 6 6 (k + 93) 66 := hru.mv ((ha193 (k + 29) (by omega))).2 (fun j9 h9 => ((ha193 (k + 93 + 66 * j9) (by omega))).1)
        have hpr : ∃ PR : Nat → Int, G (k + 30) = aI cI 6 PR := by obtain ⟨PR, h⟩ := hpr; exact ⟨PR, ((ha193 (k + 30) (by omega))).2.trans h⟩
        have hta0 : kRf cE ad G (k + 31) 7 7 (k + 428) 3 := hta0.mv ((ha193 (k + 31) (by omega))).2 (fun j9 h9 => ((ha193 (k + 428 + 3 * j9) (by omega))).1)
        have hro : ∀ q9 : Nat, q9 < 6 → kRo cI cE cF ad G (k + 32 + 66 * q9) ∧ pFh cI ad G (k + 93 + 66 * q9) 46 := fun q9 h9 => ⟨(hro q9 h9).1.mv (fun i h1 h2 => ha193 i (by omega)), (hro q9 h9).2.mv (fun i h1 h2 => ha193 i (by omega))⟩
        have hej : ∀ j9 : Nat, j9 < 7 → pEh cI ad G (k + 428 + 3 * j9) 46 := fun j9 h9 => (hej j9 h9).mv (fun i h1 h2 => ha193 i (by omega))
        have pf139 : pFh cI ad G (k + 449) (46) := pf139.mv (fun i h1 h2 => ha193 i (by omega))
        have pf154 : pFh cI ad G (k + 454) (46) := pf154.mv (fun i h1 h2 => ha193 i (by omega))
        have pw167 : pHas cI ad G (k + 459) (96) := pw167.mv (fun i h1 h2 => ha193 i (by omega))
        have pw180 : pHas cI ad G (k + 461) (96) := pw180.mv (fun i h1 h2 => ha193 i (by omega))
        have hP : va_P D vwCl (pw (k + 465) ad G) H := by rw [show k + 465 = k + 463 + 2 by omega]; exact hP
        have hD : va_D A (pw (k + 465) ad G) := by rw [show k + 465 = k + 463 + 2 by omega]; exact hD
        have pw193 : pHas cI ad G (k + 463) (96) := pw193
        refine va_putF (D := D) (ci := 2) (v := .ref (ad (k + 463))) (ty := tyX2 8) (C := RX2) (T := TX2) (N := 17) hx hb hts hin2 tyX2 tyX2_ok nmX2 hown hK hP hD hS (k) (pw_at (by omega) (k193_2)) rfl 8 (by decide) q_f_RX2_64_Elimination_bottom_LWhole (fun _ h9 => h9) rfl hnm rfl (tyX2_ok 8 (by decide)) rfl rfl (Nat.le_of_ble_eq_true rfl) dX2_init_196 (fun H locs hP hD hS => ?_)
        rw [pw_set] at hP hD
        obtain ⟨G_196, hg196⟩ : ∃ g : Nat → va_E, g = zu G (k) (.inr (2, [.ref (ad (k + 1)), .ref (ad (k + 28)), .ref (ad (k + 29)), .ref (ad (k + 30)), .ref (ad (k + 449)), .ref (ad (k + 454)), .ref (ad (k + 459)), .ref (ad (k + 461)), .ref (ad (k + 463)), .null, .ref (ad (k + 31)), .null, .int (iZ (0)), .int (iZ (0)), .int (iZ (0)), .int (iZ (0)), .int (iZ (0))])) := ⟨_, rfl⟩
        have hP : va_P D vwCl (pw (k + 465) ad G_196) H := by rw [hg196]; exact hP
        have hD : va_D A (pw (k + 465) ad G_196) := by rw [hg196]; exact hD
        have ho196 : ∀ i8 : Nat, i8 ≠ k → G_196 i8 = G i8 := fun i8 hk => by rw [hg196]; exact zu_n _ _ hk
        have he196 : G_196 (k) = .inr (2, [.ref (ad (k + 1)), .ref (ad (k + 28)), .ref (ad (k + 29)), .ref (ad (k + 30)), .ref (ad (k + 449)), .ref (ad (k + 454)), .ref (ad (k + 459)), .ref (ad (k + 461)), .ref (ad (k + 463)), .null, .ref (ad (k + 31)), .null, .int (iZ (0)), .int (iZ (0)), .int (iZ (0)), .int (iZ (0)), .int (iZ (0))]) := by rw [hg196]; exact zu_s _ _ _
        have k196_0 : G_196 (k + 449) = .inr (6, [.ref (ad (k + 449 + 1)), .ref (ad (k + 449 + 3)), .int (iZ (sg139))]) := (ho196 (k + 449) (by omega)).trans (k193_0)
        have k196_1 : G_196 (k + 454) = .inr (6, [.ref (ad (k + 454 + 1)), .ref (ad (k + 454 + 3)), .int (iZ (sg154))]) := (ho196 (k + 454) (by omega)).trans (k193_1)
        have hlo : ∀ i : Nat, i < k → ad i = ad0 i ∧ G_196 i = G0 i := fun i hi => ⟨((show ad (i) = ad (i) ∧ G_196 (i) = G (i) from ⟨rfl, ho196 (i) (by omega)⟩)).1.trans (hlo i hi).1, ((show ad (i) = ad (i) ∧ G_196 (i) = G (i) from ⟨rfl, ho196 (i) (by omega)⟩)).2.trans (hlo i hi).2⟩
        have har : kAr cI ad G_196 (k + 1) := har.mv (fun i h1 h2 => ⟨rfl, ho196 i (by omega)⟩)
        have hrr : kRf cR ad G_196 (k + 28) 6 6 (k + 32) 66 := hrr.mv ((show ad (k + 28) = ad (k + 28) ∧ G_196 (k + 28) = G (k + 28) from ⟨rfl, ho196 (k + 28) (by omega)⟩)).2 (fun j9 h9 => ((show ad (k + 32 + 66 * j9) = ad (k + 32 + 66 * j9) ∧ G_196 (k + 32 + 66 * j9) = G (k + 32 + 66 * j9) from ⟨rfl, ho196 (k + 32 + 66 * j9) (by omega)⟩)).1)
        have hru : kRf cF ad G_196 (k + 29) 6 6 (k + 93) 66 := hru.mv ((show ad (k + 29) = ad (k + 29) ∧ G_196 (k + 29) = G (k + 29) from ⟨rfl, ho196 (k + 29) (by omega)⟩)).2 (fun j9 h9 => ((show ad (k + 93 + 66 * j9) = ad (k + 93 + 66 * j9) ∧ G_196 (k + 93 + 66 * j9) = G (k + 93 + 66 * j9) from ⟨rfl, ho196 (k + 93 + 66 * j9) (by omega)⟩)).1)
        have hpr : ∃ PR : Nat → Int, G_196 (k + 30) = aI cI 6 PR := by obtain ⟨PR, h⟩ := hpr; exact ⟨PR, ((show ad (k + 30) = ad (k + 30) ∧ G_196 (k + 30) = G (k + 30) from ⟨rfl, ho196 (k + 30) (by omega)⟩)).2.trans h⟩
        have hta0 : kRf cE ad G_196 (k + 31) 7 7 (k + 428) 3 := hta0.mv ((show ad (k + 31) = ad (k + 31) ∧ G_196 (k + 31) = G (k + 31) from ⟨rfl, ho196 (k + 31) (by omega)⟩)).2 (fun j9 h9 => ((show ad (k + 428 + 3 * j9) = ad (k + 428 + 3 * j9) ∧ G_196 (k + 428 + 3 * j9) = G (k + 428 + 3 * j9) from ⟨rfl, ho196 (k + 428 + 3 * j9) (by omega)⟩)).1)
        have hro : ∀ q9 : Nat, q9 < 6 → kRo cI cE cF ad G_196 (k + 32 + 66 * q9) ∧ pFh cI ad G_196 (k + 93 + 66 * q9) 46 := fun q9 h9 => ⟨(hro q9 h9).1.mv (fun i h1 h2 => ⟨rfl, ho196 i (by omega)⟩), (hro q9 h9).2.mv (fun i h1 h2 => ⟨rfl, ho196 i (by omega)⟩)⟩
        have hej : ∀ j9 : Nat, j9 < 7 → pEh cI ad G_196 (k + 428 + 3 * j9) 46 := fun j9 h9 => (hej j9 h9).mv (fun i h1 h2 => ⟨rfl, ho196 i (by omega)⟩)
        have pf139 : pFh cI ad G_196 (k + 449) (46) := pf139.mv (fun i h1 h2 => ⟨rfl, ho196 i (by omega)⟩)
        have pf154 : pFh cI ad G_196 (k + 454) (46) := pf154.mv (fun i h1 h2 => ⟨rfl, ho196 i (by omega)⟩)
        have pw167 : pHas cI ad G_196 (k + 459) (96) := pw167.mv (fun i h1 h2 => ⟨rfl, ho196 i (by omega)⟩)
        have pw180 : pHas cI ad G_196 (k + 461) (96) := pw180.mv (fun i h1 h2 => ⟨rfl, ho196 i (by omega)⟩)
        have pw193 : pHas cI ad G_196 (k + 463) (96) := pw193.mv (fun i h1 h2 => ⟨rfl, ho196 i (by omega)⟩)
        refine lv_aload_n hx hb dX2_init_199 rfl (lv_at hl 1 rfl) ?_
        refine zk_new (D := D) (C := RX3) (T := TX3) (N := 2) (ci := 3) hx hb hts hin3 tyX3 tyX3_ok hown q_classLink_RX2_34_RX3 q_instantiable_RX3_2 q_initialized_RX3 hK hP hD hS hA rfl [.null, .int (iZ (0))] (hfX3) (by show _ ≤ 467; omega) (by show _ ≤ 12268; omega) dX2_init_200 (fun ad G H ha200 hn200 hP hD hS => ?_)
        have hl : lv_has ls 2 [(1, .int (iZ (((7 : Nat) : Int)))), (0, .ref (ad (k)))] := by rw [(ha200 (k) (by omega)).1]; exact hl
        refine zk_st [.ref (ad (k + 465)), .ref (ad (k))] (by rw [(ha200 (k) (by omega)).1]) ?_
        have k200_0 : G (k + 449) = .inr (6, [.ref (ad (k + 449 + 1)), .ref (ad (k + 449 + 3)), .int (iZ (sg139))]) := by rw [(ha200 (k + 449) (by omega)).2, k196_0, (ha200 (k + 449 + 1) (by omega)).1, (ha200 (k + 449 + 3) (by omega)).1]
        have k200_1 : G (k + 454) = .inr (6, [.ref (ad (k + 454 + 1)), .ref (ad (k + 454 + 3)), .int (iZ (sg154))]) := by rw [(ha200 (k + 454) (by omega)).2, k196_1, (ha200 (k + 454 + 1) (by omega)).1, (ha200 (k + 454 + 3) (by omega)).1]
        have k200_2 : G (k) = .inr (2, [.ref (ad (k + 1)), .ref (ad (k + 28)), .ref (ad (k + 29)), .ref (ad (k + 30)), .ref (ad (k + 449)), .ref (ad (k + 454)), .ref (ad (k + 459)), .ref (ad (k + 461)), .ref (ad (k + 463)), .null, .ref (ad (k + 31)), .null, .int (iZ (0)), .int (iZ (0)), .int (iZ (0)), .int (iZ (0)), .int (iZ (0))]) := by rw [(ha200 (k) (by omega)).2, he196, (ha200 (k + 1) (by omega)).1, (ha200 (k + 28) (by omega)).1, (ha200 (k + 29) (by omega)).1, (ha200 (k + 30) (by omega)).1, (ha200 (k + 31) (by omega)).1, (ha200 (k + 449) (by omega)).1, (ha200 (k + 454) (by omega)).1, (ha200 (k + 459) (by omega)).1, (ha200 (k + 461) (by omega)).1, (ha200 (k + 463) (by omega)).1]
        have hlo : ∀ i : Nat, i < k → ad i = ad0 i ∧ G i = G0 i := fun i hi => ⟨((ha200 (i) (by omega))).1.trans (hlo i hi).1, ((ha200 (i) (by omega))).2.trans (hlo i hi).2⟩
        have hak : ad k = ad0 k := ((ha200 (k) (by omega))).1.trans hak
        have har : kAr cI ad G (k + 1) := har.mv (fun i h1 h2 => ha200 i (by omega))
        have hrr : kRf cR ad G (k + 28) 6 6 (k + 32) 66 := hrr.mv ((ha200 (k + 28) (by omega))).2 (fun j9 h9 => ((ha200 (k + 32 + 66 * j9) (by omega))).1)
        have hru : kRf cF ad G (k + 29) 6 6 (k + 93) 66 := hru.mv ((ha200 (k + 29) (by omega))).2 (fun j9 h9 => ((ha200 (k + 93 + 66 * j9) (by omega))).1)
        have hpr : ∃ PR : Nat → Int, G (k + 30) = aI cI 6 PR := by obtain ⟨PR, h⟩ := hpr; exact ⟨PR, ((ha200 (k + 30) (by omega))).2.trans h⟩
        have hta0 : kRf cE ad G (k + 31) 7 7 (k + 428) 3 := hta0.mv ((ha200 (k + 31) (by omega))).2 (fun j9 h9 => ((ha200 (k + 428 + 3 * j9) (by omega))).1)
        have hro : ∀ q9 : Nat, q9 < 6 → kRo cI cE cF ad G (k + 32 + 66 * q9) ∧ pFh cI ad G (k + 93 + 66 * q9) 46 := fun q9 h9 => ⟨(hro q9 h9).1.mv (fun i h1 h2 => ha200 i (by omega)), (hro q9 h9).2.mv (fun i h1 h2 => ha200 i (by omega))⟩
        have hej : ∀ j9 : Nat, j9 < 7 → pEh cI ad G (k + 428 + 3 * j9) 46 := fun j9 h9 => (hej j9 h9).mv (fun i h1 h2 => ha200 i (by omega))
        have pf139 : pFh cI ad G (k + 449) (46) := pf139.mv (fun i h1 h2 => ha200 i (by omega))
        have pf154 : pFh cI ad G (k + 454) (46) := pf154.mv (fun i h1 h2 => ha200 i (by omega))
        have pw167 : pHas cI ad G (k + 459) (96) := pw167.mv (fun i h1 h2 => ha200 i (by omega))
        have pw180 : pHas cI ad G (k + 461) (96) := pw180.mv (fun i h1 h2 => ha200 i (by omega))
        have pw193 : pHas cI ad G (k + 463) (96) := pw193.mv (fun i h1 h2 => ha200 i (by omega))
        have hP : va_P D vwCl (pw (k + 466) ad G) H := by rw [show k + 466 = k + 465 + 1 by omega]; exact hP
        have hD : va_D A (pw (k + 466) ad G) := by rw [show k + 466 = k + 465 + 1 by omega]; exact hD
        refine lv_dup hx hb dX2_init_203 rfl ?_
        refine lv_iconst (v := iZ 1) hx hb dX2_init_204 rfl ?_
        refine zc_Kv (As := [.int (iZ (1))]) (rest := [.ref (ad (k + 465)), .ref (ad (k))]) ⟨hx, hb, hml, hown, hts⟩ (k_entry l D cI cJ cE cF cR (_) (k + 465) ad G (by omega) (1) (by omega) (by omega) (hn200)) (cwI 1 hts gX2_init_X3_init rfl rfl rfl q_initialized_RX3 q_methodLink_RX2_44_yX3_init q_instanceMethod_yX3_init rfl (by decide +kernel) ⟨Nat.le_of_ble_eq_true rfl, Nat.le_of_ble_eq_true rfl⟩) hN hAO hK hP hD hS hA rfl hl.1 (Nat.le_of_ble_eq_true rfl) dX2_init_205 ⟨by show _ ≤ 467; omega, by show _ ≤ 12268; omega⟩ (fun ad G H locs ha205 hao205 pe205 hP hD hS => ?_)
        have hl : lv_has ls 2 [(1, .int (iZ (((7 : Nat) : Int)))), (0, .ref (ad (k)))] := by rw [(ha205 (k) (by omega)).1]; exact hl
        refine zk_st [.ref (ad (k + 465)), .ref (ad (k))] (by rw [(ha205 (k) (by omega)).1, hao205]) ?_
        have k205_0 : G (k + 449) = .inr (6, [.ref (ad (k + 449 + 1)), .ref (ad (k + 449 + 3)), .int (iZ (sg139))]) := by rw [(ha205 (k + 449) (by omega)).2, k200_0, (ha205 (k + 449 + 1) (by omega)).1, (ha205 (k + 449 + 3) (by omega)).1]
        have k205_1 : G (k + 454) = .inr (6, [.ref (ad (k + 454 + 1)), .ref (ad (k + 454 + 3)), .int (iZ (sg154))]) := by rw [(ha205 (k + 454) (by omega)).2, k200_1, (ha205 (k + 454 + 1) (by omega)).1, (ha205 (k + 454 + 3) (by omega)).1]
        have k205_2 : G (k) = .inr (2, [.ref (ad (k + 1)), .ref (ad (k + 28)), .ref (ad (k + 29)), .ref (ad (k + 30)), .ref (ad (k + 449)), .ref (ad (k + 454)), .ref (ad (k + 459)), .ref (ad (k + 461)), .ref (ad (k + 463)), .null, .ref (ad (k + 31)), .null, .int (iZ (0)), .int (iZ (0)), .int (iZ (0)), .int (iZ (0)), .int (iZ (0))]) := by rw [(ha205 (k) (by omega)).2, k200_2, (ha205 (k + 1) (by omega)).1, (ha205 (k + 28) (by omega)).1, (ha205 (k + 29) (by omega)).1, (ha205 (k + 30) (by omega)).1, (ha205 (k + 31) (by omega)).1, (ha205 (k + 449) (by omega)).1, (ha205 (k + 454) (by omega)).1, (ha205 (k + 459) (by omega)).1, (ha205 (k + 461) (by omega)).1, (ha205 (k + 463) (by omega)).1]
        have hlo : ∀ i : Nat, i < k → ad i = ad0 i ∧ G i = G0 i := fun i hi => ⟨((ha205 (i) (by omega))).1.trans (hlo i hi).1, ((ha205 (i) (by omega))).2.trans (hlo i hi).2⟩
        have hak : ad k = ad0 k := ((ha205 (k) (by omega))).1.trans hak
        have har : kAr cI ad G (k + 1) := har.mv (fun i h1 h2 => ha205 i (by omega))
        have hrr : kRf cR ad G (k + 28) 6 6 (k + 32) 66 := hrr.mv ((ha205 (k + 28) (by omega))).2 (fun j9 h9 => ((ha205 (k + 32 + 66 * j9) (by omega))).1)
        have hru : kRf cF ad G (k + 29) 6 6 (k + 93) 66 := hru.mv ((ha205 (k + 29) (by omega))).2 (fun j9 h9 => ((ha205 (k + 93 + 66 * j9) (by omega))).1)
        have hpr : ∃ PR : Nat → Int, G (k + 30) = aI cI 6 PR := by obtain ⟨PR, h⟩ := hpr; exact ⟨PR, ((ha205 (k + 30) (by omega))).2.trans h⟩
        have hta0 : kRf cE ad G (k + 31) 7 7 (k + 428) 3 := hta0.mv ((ha205 (k + 31) (by omega))).2 (fun j9 h9 => ((ha205 (k + 428 + 3 * j9) (by omega))).1)
        have hro : ∀ q9 : Nat, q9 < 6 → kRo cI cE cF ad G (k + 32 + 66 * q9) ∧ pFh cI ad G (k + 93 + 66 * q9) 46 := fun q9 h9 => ⟨(hro q9 h9).1.mv (fun i h1 h2 => ha205 i (by omega)), (hro q9 h9).2.mv (fun i h1 h2 => ha205 i (by omega))⟩
        have hej : ∀ j9 : Nat, j9 < 7 → pEh cI ad G (k + 428 + 3 * j9) 46 := fun j9 h9 => (hej j9 h9).mv (fun i h1 h2 => ha205 i (by omega))
        have pf139 : pFh cI ad G (k + 449) (46) := pf139.mv (fun i h1 h2 => ha205 i (by omega))
        have pf154 : pFh cI ad G (k + 454) (46) := pf154.mv (fun i h1 h2 => ha205 i (by omega))
        have pw167 : pHas cI ad G (k + 459) (96) := pw167.mv (fun i h1 h2 => ha205 i (by omega))
        have pw180 : pHas cI ad G (k + 461) (96) := pw180.mv (fun i h1 h2 => ha205 i (by omega))
        have pw193 : pHas cI ad G (k + 463) (96) := pw193.mv (fun i h1 h2 => ha205 i (by omega))
        have hP : va_P D vwCl (pw (k + 468) ad G) H := by rw [show k + 468 = k + 465 + 3 by omega]; exact hP
        have hD : va_D A (pw (k + 468) ad G) := by rw [show k + 468 = k + 465 + 3 by omega]; exact hD
        have pe205 : pEh cI ad G (k + 465) (1) := pe205
        obtain ⟨⟨sg205, hsg205⟩, _⟩ := id pe205
        refine va_putF (D := D) (ci := 2) (v := .ref (ad (k + 465))) (ty := tyX2 9) (C := RX2) (T := TX2) (N := 17) hx hb hts hin2 tyX2 tyX2_ok nmX2 hown hK hP hD hS (k) (pw_at (by omega) (k205_2)) rfl 9 (by decide) q_f_RX2_67_Elimination_one_LEntry (fun _ h9 => h9) rfl hnm rfl (tyX2_ok 9 (by decide)) rfl rfl (Nat.le_of_ble_eq_true rfl) dX2_init_208 (fun H locs hP hD hS => ?_)
        rw [pw_set] at hP hD
        obtain ⟨G_208, hg208⟩ : ∃ g : Nat → va_E, g = zu G (k) (.inr (2, [.ref (ad (k + 1)), .ref (ad (k + 28)), .ref (ad (k + 29)), .ref (ad (k + 30)), .ref (ad (k + 449)), .ref (ad (k + 454)), .ref (ad (k + 459)), .ref (ad (k + 461)), .ref (ad (k + 463)), .ref (ad (k + 465)), .ref (ad (k + 31)), .null, .int (iZ (0)), .int (iZ (0)), .int (iZ (0)), .int (iZ (0)), .int (iZ (0))])) := ⟨_, rfl⟩
        have hP : va_P D vwCl (pw (k + 468) ad G_208) H := by rw [hg208]; exact hP
        have hD : va_D A (pw (k + 468) ad G_208) := by rw [hg208]; exact hD
        have ho208 : ∀ i8 : Nat, i8 ≠ k → G_208 i8 = G i8 := fun i8 hk => by rw [hg208]; exact zu_n _ _ hk
        have he208 : G_208 (k) = .inr (2, [.ref (ad (k + 1)), .ref (ad (k + 28)), .ref (ad (k + 29)), .ref (ad (k + 30)), .ref (ad (k + 449)), .ref (ad (k + 454)), .ref (ad (k + 459)), .ref (ad (k + 461)), .ref (ad (k + 463)), .ref (ad (k + 465)), .ref (ad (k + 31)), .null, .int (iZ (0)), .int (iZ (0)), .int (iZ (0)), .int (iZ (0)), .int (iZ (0))]) := by rw [hg208]; exact zu_s _ _ _
        have k208_0 : G_208 (k + 449) = .inr (6, [.ref (ad (k + 449 + 1)), .ref (ad (k + 449 + 3)), .int (iZ (sg139))]) := (ho208 (k + 449) (by omega)).trans (k205_0)
        have k208_1 : G_208 (k + 454) = .inr (6, [.ref (ad (k + 454 + 1)), .ref (ad (k + 454 + 3)), .int (iZ (sg154))]) := (ho208 (k + 454) (by omega)).trans (k205_1)
        have k208_3 : G_208 (k + 465) = .inr (3, [.ref (ad (k + 465 + 1)), .int (iZ (sg205))]) := (ho208 (k + 465) (by omega)).trans (hsg205)
        have hlo : ∀ i : Nat, i < k → ad i = ad0 i ∧ G_208 i = G0 i := fun i hi => ⟨((show ad (i) = ad (i) ∧ G_208 (i) = G (i) from ⟨rfl, ho208 (i) (by omega)⟩)).1.trans (hlo i hi).1, ((show ad (i) = ad (i) ∧ G_208 (i) = G (i) from ⟨rfl, ho208 (i) (by omega)⟩)).2.trans (hlo i hi).2⟩
        have har : kAr cI ad G_208 (k + 1) := har.mv (fun i h1 h2 => ⟨rfl, ho208 i (by omega)⟩)
        have hrr : kRf cR ad G_208 (k + 28) 6 6 (k + 32) 66 := hrr.mv ((show ad (k + 28) = ad (k + 28) ∧ G_208 (k + 28) = G (k + 28) from ⟨rfl, ho208 (k + 28) (by omega)⟩)).2 (fun j9 h9 => ((show ad (k + 32 + 66 * j9) = ad (k + 32 + 66 * j9) ∧ G_208 (k + 32 + 66 * j9) = G (k + 32 + 66 * j9) from ⟨rfl, ho208 (k + 32 + 66 * j9) (by omega)⟩)).1)
        have hru : kRf cF ad G_208 (k + 29) 6 6 (k + 93) 66 := hru.mv ((show ad (k + 29) = ad (k + 29) ∧ G_208 (k + 29) = G (k + 29) from ⟨rfl, ho208 (k + 29) (by omega)⟩)).2 (fun j9 h9 => ((show ad (k + 93 + 66 * j9) = ad (k + 93 + 66 * j9) ∧ G_208 (k + 93 + 66 * j9) = G (k + 93 + 66 * j9) from ⟨rfl, ho208 (k + 93 + 66 * j9) (by omega)⟩)).1)
        have hpr : ∃ PR : Nat → Int, G_208 (k + 30) = aI cI 6 PR := by obtain ⟨PR, h⟩ := hpr; exact ⟨PR, ((show ad (k + 30) = ad (k + 30) ∧ G_208 (k + 30) = G (k + 30) from ⟨rfl, ho208 (k + 30) (by omega)⟩)).2.trans h⟩
        have hta0 : kRf cE ad G_208 (k + 31) 7 7 (k + 428) 3 := hta0.mv ((show ad (k + 31) = ad (k + 31) ∧ G_208 (k + 31) = G (k + 31) from ⟨rfl, ho208 (k + 31) (by omega)⟩)).2 (fun j9 h9 => ((show ad (k + 428 + 3 * j9) = ad (k + 428 + 3 * j9) ∧ G_208 (k + 428 + 3 * j9) = G (k + 428 + 3 * j9) from ⟨rfl, ho208 (k + 428 + 3 * j9) (by omega)⟩)).1)
        have hro : ∀ q9 : Nat, q9 < 6 → kRo cI cE cF ad G_208 (k + 32 + 66 * q9) ∧ pFh cI ad G_208 (k + 93 + 66 * q9) 46 := fun q9 h9 => ⟨(hro q9 h9).1.mv (fun i h1 h2 => ⟨rfl, ho208 i (by omega)⟩), (hro q9 h9).2.mv (fun i h1 h2 => ⟨rfl, ho208 i (by omega)⟩)⟩
        have hej : ∀ j9 : Nat, j9 < 7 → pEh cI ad G_208 (k + 428 + 3 * j9) 46 := fun j9 h9 => (hej j9 h9).mv (fun i h1 h2 => ⟨rfl, ho208 i (by omega)⟩)
        have pf139 : pFh cI ad G_208 (k + 449) (46) := pf139.mv (fun i h1 h2 => ⟨rfl, ho208 i (by omega)⟩)
        have pf154 : pFh cI ad G_208 (k + 454) (46) := pf154.mv (fun i h1 h2 => ⟨rfl, ho208 i (by omega)⟩)
        have pw167 : pHas cI ad G_208 (k + 459) (96) := pw167.mv (fun i h1 h2 => ⟨rfl, ho208 i (by omega)⟩)
        have pw180 : pHas cI ad G_208 (k + 461) (96) := pw180.mv (fun i h1 h2 => ⟨rfl, ho208 i (by omega)⟩)
        have pw193 : pHas cI ad G_208 (k + 463) (96) := pw193.mv (fun i h1 h2 => ⟨rfl, ho208 i (by omega)⟩)
        have pe205 : pEh cI ad G_208 (k + 465) (1) := pe205.mv (fun i h1 h2 => ⟨rfl, ho208 i (by omega)⟩)
        have ho1w : pHas cI ad G_208 (k + 465 + 1) 1 := pe205.2
        obtain ⟨c9, g9, hw9, hw8⟩ := id ho1w
        refine lv_aload_n hx hb dX2_init_211 rfl (lv_at hl 1 rfl) ?_
        refine va_get (D := D) (ci := 2) (v := .ref (ad (k + 465))) (C := RX2) (T := TX2) (N := 17) hx hb hts hin2 hown hK hP (k) (pw_at (by omega) (he208)) rfl 9 (by decide) q_f_RX2_67_Elimination_one_LEntry (fun _ h9 => h9) rfl dX2_init_212 ?_
        refine va_getN (D := D) (ci := 3) (v := .ref (ad (k + 465 + 1))) (C := RX3) (T := TX3) (N := 2) hx hb hts hin3 hown hK hP (k + 465) (pw_at (by omega) (k208_3)) rfl 0 (by decide) (hN.F 9 rfl) (fun _ h9 => h9) rfl dX2_init_215 ?_
        refine lv_lconst (v := lZ 1) hx hb dX2_init_218 rfl ?_
        refine zc_Vv (As := [.long (lZ (1))]) (rest := []) (wr := []) ⟨hx, hb, hml, hown, hts⟩ (p_assign l D cI cJ cE cF cR _ ad G_208 (k + 465 + 1) 1 1 ho1w ⟨by decide, by decide⟩ (by decide) (by decide) (by omega)) (cwV 1 hts gX2_init_X9_assign rfl rfl rfl (by decide +kernel) ⟨Nat.le_of_ble_eq_true rfl, Nat.le_of_ble_eq_true rfl⟩) hN hK hP hD hS hA (List.range (k + 468)) [] (pw_all _ _ _) rfl (pw_nd _) rfl (fun _ h9 => nomatch h9) (q0 := k + 465 + 1) (ci := 9) rfl rfl (pw_at (by omega) (hw9)) rfl hl.1 (Nat.le_of_ble_eq_true rfl) dX2_init_219 ⟨by show _ ≤ 467; omega, by show _ ≤ 12268; omega⟩ (fun w1 H locs hp hP hD hS => ?_)
        obtain ⟨G9, rfl, hone, ho9⟩ := hp
        have hP : va_P D vwCl (pw (k + 468) ad G9) H := hP
        have hD : va_D A (pw (k + 468) ad G9) := hD
        have k219_0 : G9 (k + 449) = .inr (6, [.ref (ad (k + 449 + 1)), .ref (ad (k + 449 + 3)), .int (iZ (sg139))]) := (ho9 (k + 449) (by omega) (by omega)).trans (k208_0)
        have k219_1 : G9 (k + 454) = .inr (6, [.ref (ad (k + 454 + 1)), .ref (ad (k + 454 + 3)), .int (iZ (sg154))]) := (ho9 (k + 454) (by omega) (by omega)).trans (k208_1)
        have k219_2 : G9 (k + 465) = .inr (3, [.ref (ad (k + 465 + 1)), .int (iZ (sg205))]) := (ho9 (k + 465) (by omega) (by omega)).trans (k208_3)
        have k219_3 : G9 (k) = .inr (2, [.ref (ad (k + 1)), .ref (ad (k + 28)), .ref (ad (k + 29)), .ref (ad (k + 30)), .ref (ad (k + 449)), .ref (ad (k + 454)), .ref (ad (k + 459)), .ref (ad (k + 461)), .ref (ad (k + 463)), .ref (ad (k + 465)), .ref (ad (k + 31)), .null, .int (iZ (0)), .int (iZ (0)), .int (iZ (0)), .int (iZ (0)), .int (iZ (0))]) := (ho9 (k) (by omega) (by omega)).trans (he208)
        have hlo : ∀ i : Nat, i < k → ad i = ad0 i ∧ G9 i = G0 i := fun i hi => ⟨((show ad (i) = ad (i) ∧ G9 (i) = G_208 (i) from ⟨rfl, ho9 (i) (by omega) (by omega)⟩)).1.trans (hlo i hi).1, ((show ad (i) = ad (i) ∧ G9 (i) = G_208 (i) from ⟨rfl, ho9 (i) (by omega) (by omega)⟩)).2.trans (hlo i hi).2⟩
        have har : kAr cI ad G9 (k + 1) := har.mv (fun i h1 h2 => ⟨rfl, ho9 i (by omega) (by omega)⟩)
        have hrr : kRf cR ad G9 (k + 28) 6 6 (k + 32) 66 := hrr.mv ((show ad (k + 28) = ad (k + 28) ∧ G9 (k + 28) = G_208 (k + 28) from ⟨rfl, ho9 (k + 28) (by omega) (by omega)⟩)).2 (fun j9 h9 => ((show ad (k + 32 + 66 * j9) = ad (k + 32 + 66 * j9) ∧ G9 (k + 32 + 66 * j9) = G_208 (k + 32 + 66 * j9) from ⟨rfl, ho9 (k + 32 + 66 * j9) (by omega) (by omega)⟩)).1)
        have hru : kRf cF ad G9 (k + 29) 6 6 (k + 93) 66 := hru.mv ((show ad (k + 29) = ad (k + 29) ∧ G9 (k + 29) = G_208 (k + 29) from ⟨rfl, ho9 (k + 29) (by omega) (by omega)⟩)).2 (fun j9 h9 => ((show ad (k + 93 + 66 * j9) = ad (k + 93 + 66 * j9) ∧ G9 (k + 93 + 66 * j9) = G_208 (k + 93 + 66 * j9) from ⟨rfl, ho9 (k + 93 + 66 * j9) (by omega) (by omega)⟩)).1)
        have hpr : ∃ PR : Nat → Int, G9 (k + 30) = aI cI 6 PR := by obtain ⟨PR, h⟩ := hpr; exact ⟨PR, ((show ad (k + 30) = ad (k + 30) ∧ G9 (k + 30) = G_208 (k + 30) from ⟨rfl, ho9 (k + 30) (by omega) (by omega)⟩)).2.trans h⟩
        have hta0 : kRf cE ad G9 (k + 31) 7 7 (k + 428) 3 := hta0.mv ((show ad (k + 31) = ad (k + 31) ∧ G9 (k + 31) = G_208 (k + 31) from ⟨rfl, ho9 (k + 31) (by omega) (by omega)⟩)).2 (fun j9 h9 => ((show ad (k + 428 + 3 * j9) = ad (k + 428 + 3 * j9) ∧ G9 (k + 428 + 3 * j9) = G_208 (k + 428 + 3 * j9) from ⟨rfl, ho9 (k + 428 + 3 * j9) (by omega) (by omega)⟩)).1)
        have hro : ∀ q9 : Nat, q9 < 6 → kRo cI cE cF ad G9 (k + 32 + 66 * q9) ∧ pFh cI ad G9 (k + 93 + 66 * q9) 46 := fun q9 h9 => ⟨(hro q9 h9).1.mv (fun i h1 h2 => ⟨rfl, ho9 i (by omega) (by omega)⟩), (hro q9 h9).2.mv (fun i h1 h2 => ⟨rfl, ho9 i (by omega) (by omega)⟩)⟩
        have hej : ∀ j9 : Nat, j9 < 7 → pEh cI ad G9 (k + 428 + 3 * j9) 46 := fun j9 h9 => (hej j9 h9).mv (fun i h1 h2 => ⟨rfl, ho9 i (by omega) (by omega)⟩)
        have pf139 : pFh cI ad G9 (k + 449) (46) := pf139.mv (fun i h1 h2 => ⟨rfl, ho9 i (by omega) (by omega)⟩)
        have pf154 : pFh cI ad G9 (k + 454) (46) := pf154.mv (fun i h1 h2 => ⟨rfl, ho9 i (by omega) (by omega)⟩)
        have pw167 : pHas cI ad G9 (k + 459) (96) := pw167.mv (fun i h1 h2 => ⟨rfl, ho9 i (by omega) (by omega)⟩)
        have pw180 : pHas cI ad G9 (k + 461) (96) := pw180.mv (fun i h1 h2 => ⟨rfl, ho9 i (by omega) (by omega)⟩)
        have pw193 : pHas cI ad G9 (k + 463) (96) := pw193.mv (fun i h1 h2 => ⟨rfl, ho9 i (by omega) (by omega)⟩)
        refine lv_aload_n hx hb dX2_init_222 rfl (lv_at hl 1 rfl) ?_
        refine va_get (D := D) (ci := 2) (v := .ref (ad (k + 465))) (C := RX2) (T := TX2) (N := 17) hx hb hts hin2 hown hK hP (k) (pw_at (by omega) (k219_3)) rfl 9 (by decide) q_f_RX2_67_Elimination_one_LEntry (fun _ h9 => h9) rfl dX2_init_223 ?_
        refine lv_iconst (v := iZ 1) hx hb dX2_init_226 rfl ?_
        refine va_putN (D := D) (ci := 3) (v := .int (iZ (1))) (ty := tyX3 1) (C := RX3) (T := TX3) (N := 2) hx hb hts hin3 tyX3 tyX3_ok nmX3 hown hK hP hD hS (k + 465) (pw_at (by omega) (k219_2)) rfl 1 (by decide) (hN.F 11 rfl) (fun _ h9 => h9) rfl (tyX3_ok 1 (by decide)) rfl rfl (Nat.le_of_ble_eq_true rfl) dX2_init_227 (fun H locs hP hD hS => ?_)
        rw [pw_set] at hP hD
        obtain ⟨G_227, hg227⟩ : ∃ g : Nat → va_E, g = zu G9 (k + 465) (.inr (3, [.ref (ad (k + 465 + 1)), .int (iZ (1))])) := ⟨_, rfl⟩
        have hP : va_P D vwCl (pw (k + 468) ad G_227) H := by rw [hg227]; exact hP
        have hD : va_D A (pw (k + 468) ad G_227) := by rw [hg227]; exact hD
        have ho227 : ∀ i8 : Nat, i8 ≠ k + 465 → G_227 i8 = G9 i8 := fun i8 hk => by rw [hg227]; exact zu_n _ _ hk
        have he227 : G_227 (k + 465) = .inr (3, [.ref (ad (k + 465 + 1)), .int (iZ (1))]) := by rw [hg227]; exact zu_s _ _ _
        have k227_0 : G_227 (k + 449) = .inr (6, [.ref (ad (k + 449 + 1)), .ref (ad (k + 449 + 3)), .int (iZ (sg139))]) := (ho227 (k + 449) (by omega)).trans (k219_0)
        have k227_1 : G_227 (k + 454) = .inr (6, [.ref (ad (k + 454 + 1)), .ref (ad (k + 454 + 3)), .int (iZ (sg154))]) := (ho227 (k + 454) (by omega)).trans (k219_1)
        have k227_3 : G_227 (k) = .inr (2, [.ref (ad (k + 1)), .ref (ad (k + 28)), .ref (ad (k + 29)), .ref (ad (k + 30)), .ref (ad (k + 449)), .ref (ad (k + 454)), .ref (ad (k + 459)), .ref (ad (k + 461)), .ref (ad (k + 463)), .ref (ad (k + 465)), .ref (ad (k + 31)), .null, .int (iZ (0)), .int (iZ (0)), .int (iZ (0)), .int (iZ (0)), .int (iZ (0))]) := (ho227 (k) (by omega)).trans (k219_3)
        have hlo : ∀ i : Nat, i < k → ad i = ad0 i ∧ G_227 i = G0 i := fun i hi => ⟨((show ad (i) = ad (i) ∧ G_227 (i) = G9 (i) from ⟨rfl, ho227 (i) (by omega)⟩)).1.trans (hlo i hi).1, ((show ad (i) = ad (i) ∧ G_227 (i) = G9 (i) from ⟨rfl, ho227 (i) (by omega)⟩)).2.trans (hlo i hi).2⟩
        have har : kAr cI ad G_227 (k + 1) := har.mv (fun i h1 h2 => ⟨rfl, ho227 i (by omega)⟩)
        have hrr : kRf cR ad G_227 (k + 28) 6 6 (k + 32) 66 := hrr.mv ((show ad (k + 28) = ad (k + 28) ∧ G_227 (k + 28) = G9 (k + 28) from ⟨rfl, ho227 (k + 28) (by omega)⟩)).2 (fun j9 h9 => ((show ad (k + 32 + 66 * j9) = ad (k + 32 + 66 * j9) ∧ G_227 (k + 32 + 66 * j9) = G9 (k + 32 + 66 * j9) from ⟨rfl, ho227 (k + 32 + 66 * j9) (by omega)⟩)).1)
        have hru : kRf cF ad G_227 (k + 29) 6 6 (k + 93) 66 := hru.mv ((show ad (k + 29) = ad (k + 29) ∧ G_227 (k + 29) = G9 (k + 29) from ⟨rfl, ho227 (k + 29) (by omega)⟩)).2 (fun j9 h9 => ((show ad (k + 93 + 66 * j9) = ad (k + 93 + 66 * j9) ∧ G_227 (k + 93 + 66 * j9) = G9 (k + 93 + 66 * j9) from ⟨rfl, ho227 (k + 93 + 66 * j9) (by omega)⟩)).1)
        have hpr : ∃ PR : Nat → Int, G_227 (k + 30) = aI cI 6 PR := by obtain ⟨PR, h⟩ := hpr; exact ⟨PR, ((show ad (k + 30) = ad (k + 30) ∧ G_227 (k + 30) = G9 (k + 30) from ⟨rfl, ho227 (k + 30) (by omega)⟩)).2.trans h⟩
        have hta0 : kRf cE ad G_227 (k + 31) 7 7 (k + 428) 3 := hta0.mv ((show ad (k + 31) = ad (k + 31) ∧ G_227 (k + 31) = G9 (k + 31) from ⟨rfl, ho227 (k + 31) (by omega)⟩)).2 (fun j9 h9 => ((show ad (k + 428 + 3 * j9) = ad (k + 428 + 3 * j9) ∧ G_227 (k + 428 + 3 * j9) = G9 (k + 428 + 3 * j9) from ⟨rfl, ho227 (k + 428 + 3 * j9) (by omega)⟩)).1)
        have hro : ∀ q9 : Nat, q9 < 6 → kRo cI cE cF ad G_227 (k + 32 + 66 * q9) ∧ pFh cI ad G_227 (k + 93 + 66 * q9) 46 := fun q9 h9 => ⟨(hro q9 h9).1.mv (fun i h1 h2 => ⟨rfl, ho227 i (by omega)⟩), (hro q9 h9).2.mv (fun i h1 h2 => ⟨rfl, ho227 i (by omega)⟩)⟩
        have hej : ∀ j9 : Nat, j9 < 7 → pEh cI ad G_227 (k + 428 + 3 * j9) 46 := fun j9 h9 => (hej j9 h9).mv (fun i h1 h2 => ⟨rfl, ho227 i (by omega)⟩)
        have pf139 : pFh cI ad G_227 (k + 449) (46) := pf139.mv (fun i h1 h2 => ⟨rfl, ho227 i (by omega)⟩)
        have pf154 : pFh cI ad G_227 (k + 454) (46) := pf154.mv (fun i h1 h2 => ⟨rfl, ho227 i (by omega)⟩)
        have pw167 : pHas cI ad G_227 (k + 459) (96) := pw167.mv (fun i h1 h2 => ⟨rfl, ho227 i (by omega)⟩)
        have pw180 : pHas cI ad G_227 (k + 461) (96) := pw180.mv (fun i h1 h2 => ⟨rfl, ho227 i (by omega)⟩)
        have pw193 : pHas cI ad G_227 (k + 463) (96) := pw193.mv (fun i h1 h2 => ⟨rfl, ho227 i (by omega)⟩)
        have hone : pWh cI ad G_227 (k + 465 + 1) 1 1 := hone.mv (fun i h1 h2 => ⟨rfl, ho227 i (by omega)⟩)
        refine lv_aload_n hx hb dX2_init_230 rfl (lv_at hl 1 rfl) ?_
        refine lv_aload_n hx hb dX2_init_231 rfl (lv_at hl 1 rfl) ?_
        refine va_get (D := D) (ci := 2) (v := .ref (ad (k + 465))) (C := RX2) (T := TX2) (N := 17) hx hb hts hin2 hown hK hP (k) (pw_at (by omega) (k227_3)) rfl 9 (by decide) q_f_RX2_67_Elimination_one_LEntry (fun _ h9 => h9) rfl dX2_init_232 ?_
        refine va_put (D := D) (ci := 2) (v := .ref (ad (k + 465))) (ty := tyX2 11) (C := RX2) (T := TX2) (N := 17) hx hb hts hin2 tyX2 tyX2_ok nmX2 hown hK hP hD hS (k) (pw_at (by omega) (k227_3)) rfl 11 (by decide) q_f_RX2_82_Elimination_lastPivot_LEntry (fun _ h9 => h9) rfl (tyX2_ok 11 (by decide)) rfl rfl (Nat.le_of_ble_eq_true rfl) dX2_init_235 (fun H locs hP hD hS => ?_)
        rw [pw_set] at hP hD
        obtain ⟨G_235, hg235⟩ : ∃ g : Nat → va_E, g = zu G_227 (k) (.inr (2, [.ref (ad (k + 1)), .ref (ad (k + 28)), .ref (ad (k + 29)), .ref (ad (k + 30)), .ref (ad (k + 449)), .ref (ad (k + 454)), .ref (ad (k + 459)), .ref (ad (k + 461)), .ref (ad (k + 463)), .ref (ad (k + 465)), .ref (ad (k + 31)), .ref (ad (k + 465)), .int (iZ (0)), .int (iZ (0)), .int (iZ (0)), .int (iZ (0)), .int (iZ (0))])) := ⟨_, rfl⟩
        have hP : va_P D vwCl (pw (k + 468) ad G_235) H := by rw [hg235]; exact hP
        have hD : va_D A (pw (k + 468) ad G_235) := by rw [hg235]; exact hD
        have ho235 : ∀ i8 : Nat, i8 ≠ k → G_235 i8 = G_227 i8 := fun i8 hk => by rw [hg235]; exact zu_n _ _ hk
        have he235 : G_235 (k) = .inr (2, [.ref (ad (k + 1)), .ref (ad (k + 28)), .ref (ad (k + 29)), .ref (ad (k + 30)), .ref (ad (k + 449)), .ref (ad (k + 454)), .ref (ad (k + 459)), .ref (ad (k + 461)), .ref (ad (k + 463)), .ref (ad (k + 465)), .ref (ad (k + 31)), .ref (ad (k + 465)), .int (iZ (0)), .int (iZ (0)), .int (iZ (0)), .int (iZ (0)), .int (iZ (0))]) := by rw [hg235]; exact zu_s _ _ _
        have k235_0 : G_235 (k + 449) = .inr (6, [.ref (ad (k + 449 + 1)), .ref (ad (k + 449 + 3)), .int (iZ (sg139))]) := (ho235 (k + 449) (by omega)).trans (k227_0)
        have k235_1 : G_235 (k + 454) = .inr (6, [.ref (ad (k + 454 + 1)), .ref (ad (k + 454 + 3)), .int (iZ (sg154))]) := (ho235 (k + 454) (by omega)).trans (k227_1)
        have k235_3 : G_235 (k + 465) = .inr (3, [.ref (ad (k + 465 + 1)), .int (iZ (1))]) := (ho235 (k + 465) (by omega)).trans (he227)
        have hlo : ∀ i : Nat, i < k → ad i = ad0 i ∧ G_235 i = G0 i := fun i hi => ⟨((show ad (i) = ad (i) ∧ G_235 (i) = G_227 (i) from ⟨rfl, ho235 (i) (by omega)⟩)).1.trans (hlo i hi).1, ((show ad (i) = ad (i) ∧ G_235 (i) = G_227 (i) from ⟨rfl, ho235 (i) (by omega)⟩)).2.trans (hlo i hi).2⟩
        have har : kAr cI ad G_235 (k + 1) := har.mv (fun i h1 h2 => ⟨rfl, ho235 i (by omega)⟩)
        have hrr : kRf cR ad G_235 (k + 28) 6 6 (k + 32) 66 := hrr.mv ((show ad (k + 28) = ad (k + 28) ∧ G_235 (k + 28) = G_227 (k + 28) from ⟨rfl, ho235 (k + 28) (by omega)⟩)).2 (fun j9 h9 => ((show ad (k + 32 + 66 * j9) = ad (k + 32 + 66 * j9) ∧ G_235 (k + 32 + 66 * j9) = G_227 (k + 32 + 66 * j9) from ⟨rfl, ho235 (k + 32 + 66 * j9) (by omega)⟩)).1)
        have hru : kRf cF ad G_235 (k + 29) 6 6 (k + 93) 66 := hru.mv ((show ad (k + 29) = ad (k + 29) ∧ G_235 (k + 29) = G_227 (k + 29) from ⟨rfl, ho235 (k + 29) (by omega)⟩)).2 (fun j9 h9 => ((show ad (k + 93 + 66 * j9) = ad (k + 93 + 66 * j9) ∧ G_235 (k + 93 + 66 * j9) = G_227 (k + 93 + 66 * j9) from ⟨rfl, ho235 (k + 93 + 66 * j9) (by omega)⟩)).1)
        have hpr : ∃ PR : Nat → Int, G_235 (k + 30) = aI cI 6 PR := by obtain ⟨PR, h⟩ := hpr; exact ⟨PR, ((show ad (k + 30) = ad (k + 30) ∧ G_235 (k + 30) = G_227 (k + 30) from ⟨rfl, ho235 (k + 30) (by omega)⟩)).2.trans h⟩
        have hta0 : kRf cE ad G_235 (k + 31) 7 7 (k + 428) 3 := hta0.mv ((show ad (k + 31) = ad (k + 31) ∧ G_235 (k + 31) = G_227 (k + 31) from ⟨rfl, ho235 (k + 31) (by omega)⟩)).2 (fun j9 h9 => ((show ad (k + 428 + 3 * j9) = ad (k + 428 + 3 * j9) ∧ G_235 (k + 428 + 3 * j9) = G_227 (k + 428 + 3 * j9) from ⟨rfl, ho235 (k + 428 + 3 * j9) (by omega)⟩)).1)
        have hro : ∀ q9 : Nat, q9 < 6 → kRo cI cE cF ad G_235 (k + 32 + 66 * q9) ∧ pFh cI ad G_235 (k + 93 + 66 * q9) 46 := fun q9 h9 => ⟨(hro q9 h9).1.mv (fun i h1 h2 => ⟨rfl, ho235 i (by omega)⟩), (hro q9 h9).2.mv (fun i h1 h2 => ⟨rfl, ho235 i (by omega)⟩)⟩
        have hej : ∀ j9 : Nat, j9 < 7 → pEh cI ad G_235 (k + 428 + 3 * j9) 46 := fun j9 h9 => (hej j9 h9).mv (fun i h1 h2 => ⟨rfl, ho235 i (by omega)⟩)
        have pf139 : pFh cI ad G_235 (k + 449) (46) := pf139.mv (fun i h1 h2 => ⟨rfl, ho235 i (by omega)⟩)
        have pf154 : pFh cI ad G_235 (k + 454) (46) := pf154.mv (fun i h1 h2 => ⟨rfl, ho235 i (by omega)⟩)
        have pw167 : pHas cI ad G_235 (k + 459) (96) := pw167.mv (fun i h1 h2 => ⟨rfl, ho235 i (by omega)⟩)
        have pw180 : pHas cI ad G_235 (k + 461) (96) := pw180.mv (fun i h1 h2 => ⟨rfl, ho235 i (by omega)⟩)
        have pw193 : pHas cI ad G_235 (k + 463) (96) := pw193.mv (fun i h1 h2 => ⟨rfl, ho235 i (by omega)⟩)
        have hone : pWh cI ad G_235 (k + 465 + 1) 1 1 := hone.mv (fun i h1 h2 => ⟨rfl, ho235 i (by omega)⟩)
        refine lv_aload_n hx hb dX2_init_238 rfl (lv_at hl 1 rfl) ?_
        refine lv_iconst (v := iZ 1) hx hb dX2_init_239 rfl ?_
        refine va_put (D := D) (ci := 2) (v := .int (iZ (1))) (ty := tyX2 12) (C := RX2) (T := TX2) (N := 17) hx hb hts hin2 tyX2 tyX2_ok nmX2 hown hK hP hD hS (k) (pw_at (by omega) (he235)) rfl 12 (by decide) q_f_RX2_85_Elimination_n_I (fun _ h9 => h9) rfl (tyX2_ok 12 (by decide)) rfl rfl (Nat.le_of_ble_eq_true rfl) dX2_init_240 (fun H locs hP hD hS => ?_)
        rw [pw_set] at hP hD
        obtain ⟨G_240, hg240⟩ : ∃ g : Nat → va_E, g = zu G_235 (k) (.inr (2, [.ref (ad (k + 1)), .ref (ad (k + 28)), .ref (ad (k + 29)), .ref (ad (k + 30)), .ref (ad (k + 449)), .ref (ad (k + 454)), .ref (ad (k + 459)), .ref (ad (k + 461)), .ref (ad (k + 463)), .ref (ad (k + 465)), .ref (ad (k + 31)), .ref (ad (k + 465)), .int (iZ (1)), .int (iZ (0)), .int (iZ (0)), .int (iZ (0)), .int (iZ (0))])) := ⟨_, rfl⟩
        have hP : va_P D vwCl (pw (k + 468) ad G_240) H := by rw [hg240]; exact hP
        have hD : va_D A (pw (k + 468) ad G_240) := by rw [hg240]; exact hD
        have ho240 : ∀ i8 : Nat, i8 ≠ k → G_240 i8 = G_235 i8 := fun i8 hk => by rw [hg240]; exact zu_n _ _ hk
        have he240 : G_240 (k) = .inr (2, [.ref (ad (k + 1)), .ref (ad (k + 28)), .ref (ad (k + 29)), .ref (ad (k + 30)), .ref (ad (k + 449)), .ref (ad (k + 454)), .ref (ad (k + 459)), .ref (ad (k + 461)), .ref (ad (k + 463)), .ref (ad (k + 465)), .ref (ad (k + 31)), .ref (ad (k + 465)), .int (iZ (1)), .int (iZ (0)), .int (iZ (0)), .int (iZ (0)), .int (iZ (0))]) := by rw [hg240]; exact zu_s _ _ _
        have k240_0 : G_240 (k + 449) = .inr (6, [.ref (ad (k + 449 + 1)), .ref (ad (k + 449 + 3)), .int (iZ (sg139))]) := (ho240 (k + 449) (by omega)).trans (k235_0)
        have k240_1 : G_240 (k + 454) = .inr (6, [.ref (ad (k + 454 + 1)), .ref (ad (k + 454 + 3)), .int (iZ (sg154))]) := (ho240 (k + 454) (by omega)).trans (k235_1)
        have k240_2 : G_240 (k + 465) = .inr (3, [.ref (ad (k + 465 + 1)), .int (iZ (1))]) := (ho240 (k + 465) (by omega)).trans (k235_3)
        have hlo : ∀ i : Nat, i < k → ad i = ad0 i ∧ G_240 i = G0 i := fun i hi => ⟨((show ad (i) = ad (i) ∧ G_240 (i) = G_235 (i) from ⟨rfl, ho240 (i) (by omega)⟩)).1.trans (hlo i hi).1, ((show ad (i) = ad (i) ∧ G_240 (i) = G_235 (i) from ⟨rfl, ho240 (i) (by omega)⟩)).2.trans (hlo i hi).2⟩
        have har : kAr cI ad G_240 (k + 1) := har.mv (fun i h1 h2 => ⟨rfl, ho240 i (by omega)⟩)
        have hrr : kRf cR ad G_240 (k + 28) 6 6 (k + 32) 66 := hrr.mv ((show ad (k + 28) = ad (k + 28) ∧ G_240 (k + 28) = G_235 (k + 28) from ⟨rfl, ho240 (k + 28) (by omega)⟩)).2 (fun j9 h9 => ((show ad (k + 32 + 66 * j9) = ad (k + 32 + 66 * j9) ∧ G_240 (k + 32 + 66 * j9) = G_235 (k + 32 + 66 * j9) from ⟨rfl, ho240 (k + 32 + 66 * j9) (by omega)⟩)).1)
        have hru : kRf cF ad G_240 (k + 29) 6 6 (k + 93) 66 := hru.mv ((show ad (k + 29) = ad (k + 29) ∧ G_240 (k + 29) = G_235 (k + 29) from ⟨rfl, ho240 (k + 29) (by omega)⟩)).2 (fun j9 h9 => ((show ad (k + 93 + 66 * j9) = ad (k + 93 + 66 * j9) ∧ G_240 (k + 93 + 66 * j9) = G_235 (k + 93 + 66 * j9) from ⟨rfl, ho240 (k + 93 + 66 * j9) (by omega)⟩)).1)
        have hpr : ∃ PR : Nat → Int, G_240 (k + 30) = aI cI 6 PR := by obtain ⟨PR, h⟩ := hpr; exact ⟨PR, ((show ad (k + 30) = ad (k + 30) ∧ G_240 (k + 30) = G_235 (k + 30) from ⟨rfl, ho240 (k + 30) (by omega)⟩)).2.trans h⟩
        have hta0 : kRf cE ad G_240 (k + 31) 7 7 (k + 428) 3 := hta0.mv ((show ad (k + 31) = ad (k + 31) ∧ G_240 (k + 31) = G_235 (k + 31) from ⟨rfl, ho240 (k + 31) (by omega)⟩)).2 (fun j9 h9 => ((show ad (k + 428 + 3 * j9) = ad (k + 428 + 3 * j9) ∧ G_240 (k + 428 + 3 * j9) = G_235 (k + 428 + 3 * j9) from ⟨rfl, ho240 (k + 428 + 3 * j9) (by omega)⟩)).1)
        have hro : ∀ q9 : Nat, q9 < 6 → kRo cI cE cF ad G_240 (k + 32 + 66 * q9) ∧ pFh cI ad G_240 (k + 93 + 66 * q9) 46 := fun q9 h9 => ⟨(hro q9 h9).1.mv (fun i h1 h2 => ⟨rfl, ho240 i (by omega)⟩), (hro q9 h9).2.mv (fun i h1 h2 => ⟨rfl, ho240 i (by omega)⟩)⟩
        have hej : ∀ j9 : Nat, j9 < 7 → pEh cI ad G_240 (k + 428 + 3 * j9) 46 := fun j9 h9 => (hej j9 h9).mv (fun i h1 h2 => ⟨rfl, ho240 i (by omega)⟩)
        have pf139 : pFh cI ad G_240 (k + 449) (46) := pf139.mv (fun i h1 h2 => ⟨rfl, ho240 i (by omega)⟩)
        have pf154 : pFh cI ad G_240 (k + 454) (46) := pf154.mv (fun i h1 h2 => ⟨rfl, ho240 i (by omega)⟩)
        have pw167 : pHas cI ad G_240 (k + 459) (96) := pw167.mv (fun i h1 h2 => ⟨rfl, ho240 i (by omega)⟩)
        have pw180 : pHas cI ad G_240 (k + 461) (96) := pw180.mv (fun i h1 h2 => ⟨rfl, ho240 i (by omega)⟩)
        have pw193 : pHas cI ad G_240 (k + 463) (96) := pw193.mv (fun i h1 h2 => ⟨rfl, ho240 i (by omega)⟩)
        have hone : pWh cI ad G_240 (k + 465 + 1) 1 1 := hone.mv (fun i h1 h2 => ⟨rfl, ho240 i (by omega)⟩)
        refine lv_aload_n hx hb dX2_init_243 rfl (lv_at hl 1 rfl) ?_
        refine lv_iconst (v := iZ 1) hx hb dX2_init_244 rfl ?_
        refine va_put (D := D) (ci := 2) (v := .int (iZ (1))) (ty := tyX2 13) (C := RX2) (T := TX2) (N := 17) hx hb hts hin2 tyX2 tyX2_ok nmX2 hown hK hP hD hS (k) (pw_at (by omega) (he240)) rfl 13 (by decide) q_f_RX2_88_Elimination_turn_I (fun _ h9 => h9) rfl (tyX2_ok 13 (by decide)) rfl rfl (Nat.le_of_ble_eq_true rfl) dX2_init_245 (fun H locs hP hD hS => ?_)
        rw [pw_set] at hP hD
        obtain ⟨G_245, hg245⟩ : ∃ g : Nat → va_E, g = zu G_240 (k) (.inr (2, [.ref (ad (k + 1)), .ref (ad (k + 28)), .ref (ad (k + 29)), .ref (ad (k + 30)), .ref (ad (k + 449)), .ref (ad (k + 454)), .ref (ad (k + 459)), .ref (ad (k + 461)), .ref (ad (k + 463)), .ref (ad (k + 465)), .ref (ad (k + 31)), .ref (ad (k + 465)), .int (iZ (1)), .int (iZ (1)), .int (iZ (0)), .int (iZ (0)), .int (iZ (0))])) := ⟨_, rfl⟩
        have hP : va_P D vwCl (pw (k + 468) ad G_245) H := by rw [hg245]; exact hP
        have hD : va_D A (pw (k + 468) ad G_245) := by rw [hg245]; exact hD
        have ho245 : ∀ i8 : Nat, i8 ≠ k → G_245 i8 = G_240 i8 := fun i8 hk => by rw [hg245]; exact zu_n _ _ hk
        have he245 : G_245 (k) = .inr (2, [.ref (ad (k + 1)), .ref (ad (k + 28)), .ref (ad (k + 29)), .ref (ad (k + 30)), .ref (ad (k + 449)), .ref (ad (k + 454)), .ref (ad (k + 459)), .ref (ad (k + 461)), .ref (ad (k + 463)), .ref (ad (k + 465)), .ref (ad (k + 31)), .ref (ad (k + 465)), .int (iZ (1)), .int (iZ (1)), .int (iZ (0)), .int (iZ (0)), .int (iZ (0))]) := by rw [hg245]; exact zu_s _ _ _
        have k245_0 : G_245 (k + 449) = .inr (6, [.ref (ad (k + 449 + 1)), .ref (ad (k + 449 + 3)), .int (iZ (sg139))]) := (ho245 (k + 449) (by omega)).trans (k240_0)
        have k245_1 : G_245 (k + 454) = .inr (6, [.ref (ad (k + 454 + 1)), .ref (ad (k + 454 + 3)), .int (iZ (sg154))]) := (ho245 (k + 454) (by omega)).trans (k240_1)
        have k245_2 : G_245 (k + 465) = .inr (3, [.ref (ad (k + 465 + 1)), .int (iZ (1))]) := (ho245 (k + 465) (by omega)).trans (k240_2)
        have hlo : ∀ i : Nat, i < k → ad i = ad0 i ∧ G_245 i = G0 i := fun i hi => ⟨((show ad (i) = ad (i) ∧ G_245 (i) = G_240 (i) from ⟨rfl, ho245 (i) (by omega)⟩)).1.trans (hlo i hi).1, ((show ad (i) = ad (i) ∧ G_245 (i) = G_240 (i) from ⟨rfl, ho245 (i) (by omega)⟩)).2.trans (hlo i hi).2⟩
        have har : kAr cI ad G_245 (k + 1) := har.mv (fun i h1 h2 => ⟨rfl, ho245 i (by omega)⟩)
        have hrr : kRf cR ad G_245 (k + 28) 6 6 (k + 32) 66 := hrr.mv ((show ad (k + 28) = ad (k + 28) ∧ G_245 (k + 28) = G_240 (k + 28) from ⟨rfl, ho245 (k + 28) (by omega)⟩)).2 (fun j9 h9 => ((show ad (k + 32 + 66 * j9) = ad (k + 32 + 66 * j9) ∧ G_245 (k + 32 + 66 * j9) = G_240 (k + 32 + 66 * j9) from ⟨rfl, ho245 (k + 32 + 66 * j9) (by omega)⟩)).1)
        have hru : kRf cF ad G_245 (k + 29) 6 6 (k + 93) 66 := hru.mv ((show ad (k + 29) = ad (k + 29) ∧ G_245 (k + 29) = G_240 (k + 29) from ⟨rfl, ho245 (k + 29) (by omega)⟩)).2 (fun j9 h9 => ((show ad (k + 93 + 66 * j9) = ad (k + 93 + 66 * j9) ∧ G_245 (k + 93 + 66 * j9) = G_240 (k + 93 + 66 * j9) from ⟨rfl, ho245 (k + 93 + 66 * j9) (by omega)⟩)).1)
        have hpr : ∃ PR : Nat → Int, G_245 (k + 30) = aI cI 6 PR := by obtain ⟨PR, h⟩ := hpr; exact ⟨PR, ((show ad (k + 30) = ad (k + 30) ∧ G_245 (k + 30) = G_240 (k + 30) from ⟨rfl, ho245 (k + 30) (by omega)⟩)).2.trans h⟩
        have hta0 : kRf cE ad G_245 (k + 31) 7 7 (k + 428) 3 := hta0.mv ((show ad (k + 31) = ad (k + 31) ∧ G_245 (k + 31) = G_240 (k + 31) from ⟨rfl, ho245 (k + 31) (by omega)⟩)).2 (fun j9 h9 => ((show ad (k + 428 + 3 * j9) = ad (k + 428 + 3 * j9) ∧ G_245 (k + 428 + 3 * j9) = G_240 (k + 428 + 3 * j9) from ⟨rfl, ho245 (k + 428 + 3 * j9) (by omega)⟩)).1)
        have hro : ∀ q9 : Nat, q9 < 6 → kRo cI cE cF ad G_245 (k + 32 + 66 * q9) ∧ pFh cI ad G_245 (k + 93 + 66 * q9) 46 := fun q9 h9 => ⟨(hro q9 h9).1.mv (fun i h1 h2 => ⟨rfl, ho245 i (by omega)⟩), (hro q9 h9).2.mv (fun i h1 h2 => ⟨rfl, ho245 i (by omega)⟩)⟩
        have hej : ∀ j9 : Nat, j9 < 7 → pEh cI ad G_245 (k + 428 + 3 * j9) 46 := fun j9 h9 => (hej j9 h9).mv (fun i h1 h2 => ⟨rfl, ho245 i (by omega)⟩)
        have pf139 : pFh cI ad G_245 (k + 449) (46) := pf139.mv (fun i h1 h2 => ⟨rfl, ho245 i (by omega)⟩)
        have pf154 : pFh cI ad G_245 (k + 454) (46) := pf154.mv (fun i h1 h2 => ⟨rfl, ho245 i (by omega)⟩)
        have pw167 : pHas cI ad G_245 (k + 459) (96) := pw167.mv (fun i h1 h2 => ⟨rfl, ho245 i (by omega)⟩)
        have pw180 : pHas cI ad G_245 (k + 461) (96) := pw180.mv (fun i h1 h2 => ⟨rfl, ho245 i (by omega)⟩)
        have pw193 : pHas cI ad G_245 (k + 463) (96) := pw193.mv (fun i h1 h2 => ⟨rfl, ho245 i (by omega)⟩)
        have hone : pWh cI ad G_245 (k + 465 + 1) 1 1 := hone.mv (fun i h1 h2 => ⟨rfl, ho245 i (by omega)⟩)
        refine lv_aload_n hx hb dX2_init_248 rfl (lv_at hl 1 rfl) ?_
        refine lv_iconst (v := iZ 0) hx hb dX2_init_249 rfl ?_
        refine va_put (D := D) (ci := 2) (v := .int (iZ (0))) (ty := tyX2 14) (C := RX2) (T := TX2) (N := 17) hx hb hts hin2 tyX2 tyX2_ok nmX2 hown hK hP hD hS (k) (pw_at (by omega) (he245)) rfl 14 (by decide) q_f_RX2_91_Elimination_pivots_I (fun _ h9 => h9) rfl (tyX2_ok 14 (by decide)) rfl rfl (Nat.le_of_ble_eq_true rfl) dX2_init_250 (fun H locs hP hD hS => ?_)
        rw [pw_set] at hP hD
        obtain ⟨G_250, hg250⟩ : ∃ g : Nat → va_E, g = zu G_245 (k) (.inr (2, [.ref (ad (k + 1)), .ref (ad (k + 28)), .ref (ad (k + 29)), .ref (ad (k + 30)), .ref (ad (k + 449)), .ref (ad (k + 454)), .ref (ad (k + 459)), .ref (ad (k + 461)), .ref (ad (k + 463)), .ref (ad (k + 465)), .ref (ad (k + 31)), .ref (ad (k + 465)), .int (iZ (1)), .int (iZ (1)), .int (iZ (0)), .int (iZ (0)), .int (iZ (0))])) := ⟨_, rfl⟩
        have hP : va_P D vwCl (pw (k + 468) ad G_250) H := by rw [hg250]; exact hP
        have hD : va_D A (pw (k + 468) ad G_250) := by rw [hg250]; exact hD
        have ho250 : ∀ i8 : Nat, i8 ≠ k → G_250 i8 = G_245 i8 := fun i8 hk => by rw [hg250]; exact zu_n _ _ hk
        have he250 : G_250 (k) = .inr (2, [.ref (ad (k + 1)), .ref (ad (k + 28)), .ref (ad (k + 29)), .ref (ad (k + 30)), .ref (ad (k + 449)), .ref (ad (k + 454)), .ref (ad (k + 459)), .ref (ad (k + 461)), .ref (ad (k + 463)), .ref (ad (k + 465)), .ref (ad (k + 31)), .ref (ad (k + 465)), .int (iZ (1)), .int (iZ (1)), .int (iZ (0)), .int (iZ (0)), .int (iZ (0))]) := by rw [hg250]; exact zu_s _ _ _
        have k250_0 : G_250 (k + 449) = .inr (6, [.ref (ad (k + 449 + 1)), .ref (ad (k + 449 + 3)), .int (iZ (sg139))]) := (ho250 (k + 449) (by omega)).trans (k245_0)
        have k250_1 : G_250 (k + 454) = .inr (6, [.ref (ad (k + 454 + 1)), .ref (ad (k + 454 + 3)), .int (iZ (sg154))]) := (ho250 (k + 454) (by omega)).trans (k245_1)
        have k250_2 : G_250 (k + 465) = .inr (3, [.ref (ad (k + 465 + 1)), .int (iZ (1))]) := (ho250 (k + 465) (by omega)).trans (k245_2)
        have hlo : ∀ i : Nat, i < k → ad i = ad0 i ∧ G_250 i = G0 i := fun i hi => ⟨((show ad (i) = ad (i) ∧ G_250 (i) = G_245 (i) from ⟨rfl, ho250 (i) (by omega)⟩)).1.trans (hlo i hi).1, ((show ad (i) = ad (i) ∧ G_250 (i) = G_245 (i) from ⟨rfl, ho250 (i) (by omega)⟩)).2.trans (hlo i hi).2⟩
        have har : kAr cI ad G_250 (k + 1) := har.mv (fun i h1 h2 => ⟨rfl, ho250 i (by omega)⟩)
        have hrr : kRf cR ad G_250 (k + 28) 6 6 (k + 32) 66 := hrr.mv ((show ad (k + 28) = ad (k + 28) ∧ G_250 (k + 28) = G_245 (k + 28) from ⟨rfl, ho250 (k + 28) (by omega)⟩)).2 (fun j9 h9 => ((show ad (k + 32 + 66 * j9) = ad (k + 32 + 66 * j9) ∧ G_250 (k + 32 + 66 * j9) = G_245 (k + 32 + 66 * j9) from ⟨rfl, ho250 (k + 32 + 66 * j9) (by omega)⟩)).1)
        have hru : kRf cF ad G_250 (k + 29) 6 6 (k + 93) 66 := hru.mv ((show ad (k + 29) = ad (k + 29) ∧ G_250 (k + 29) = G_245 (k + 29) from ⟨rfl, ho250 (k + 29) (by omega)⟩)).2 (fun j9 h9 => ((show ad (k + 93 + 66 * j9) = ad (k + 93 + 66 * j9) ∧ G_250 (k + 93 + 66 * j9) = G_245 (k + 93 + 66 * j9) from ⟨rfl, ho250 (k + 93 + 66 * j9) (by omega)⟩)).1)
        have hpr : ∃ PR : Nat → Int, G_250 (k + 30) = aI cI 6 PR := by obtain ⟨PR, h⟩ := hpr; exact ⟨PR, ((show ad (k + 30) = ad (k + 30) ∧ G_250 (k + 30) = G_245 (k + 30) from ⟨rfl, ho250 (k + 30) (by omega)⟩)).2.trans h⟩
        have hta0 : kRf cE ad G_250 (k + 31) 7 7 (k + 428) 3 := hta0.mv ((show ad (k + 31) = ad (k + 31) ∧ G_250 (k + 31) = G_245 (k + 31) from ⟨rfl, ho250 (k + 31) (by omega)⟩)).2 (fun j9 h9 => ((show ad (k + 428 + 3 * j9) = ad (k + 428 + 3 * j9) ∧ G_250 (k + 428 + 3 * j9) = G_245 (k + 428 + 3 * j9) from ⟨rfl, ho250 (k + 428 + 3 * j9) (by omega)⟩)).1)
        have hro : ∀ q9 : Nat, q9 < 6 → kRo cI cE cF ad G_250 (k + 32 + 66 * q9) ∧ pFh cI ad G_250 (k + 93 + 66 * q9) 46 := fun q9 h9 => ⟨(hro q9 h9).1.mv (fun i h1 h2 => ⟨rfl, ho250 i (by omega)⟩), (hro q9 h9).2.mv (fun i h1 h2 => ⟨rfl, ho250 i (by omega)⟩)⟩
        have hej : ∀ j9 : Nat, j9 < 7 → pEh cI ad G_250 (k + 428 + 3 * j9) 46 := fun j9 h9 => (hej j9 h9).mv (fun i h1 h2 => ⟨rfl, ho250 i (by omega)⟩)
        have pf139 : pFh cI ad G_250 (k + 449) (46) := pf139.mv (fun i h1 h2 => ⟨rfl, ho250 i (by omega)⟩)
        have pf154 : pFh cI ad G_250 (k + 454) (46) := pf154.mv (fun i h1 h2 => ⟨rfl, ho250 i (by omega)⟩)
        have pw167 : pHas cI ad G_250 (k + 459) (96) := pw167.mv (fun i h1 h2 => ⟨rfl, ho250 i (by omega)⟩)
        have pw180 : pHas cI ad G_250 (k + 461) (96) := pw180.mv (fun i h1 h2 => ⟨rfl, ho250 i (by omega)⟩)
        have pw193 : pHas cI ad G_250 (k + 463) (96) := pw193.mv (fun i h1 h2 => ⟨rfl, ho250 i (by omega)⟩)
        have hone : pWh cI ad G_250 (k + 465 + 1) 1 1 := hone.mv (fun i h1 h2 => ⟨rfl, ho250 i (by omega)⟩)
        refine lv_aload_n hx hb dX2_init_253 rfl (lv_at hl 1 rfl) ?_
        refine lv_iconst (v := iZ 0) hx hb dX2_init_254 rfl ?_
        refine va_put (D := D) (ci := 2) (v := .int (iZ (0))) (ty := tyX2 15) (C := RX2) (T := TX2) (N := 17) hx hb hts hin2 tyX2 tyX2_ok nmX2 hown hK hP hD hS (k) (pw_at (by omega) (he250)) rfl 15 (by decide) q_f_RX2_94_Elimination_mostLimbs_I (fun _ h9 => h9) rfl (tyX2_ok 15 (by decide)) rfl rfl (Nat.le_of_ble_eq_true rfl) dX2_init_255 (fun H locs hP hD hS => ?_)
        rw [pw_set] at hP hD
        obtain ⟨G_255, hg255⟩ : ∃ g : Nat → va_E, g = zu G_250 (k) (.inr (2, [.ref (ad (k + 1)), .ref (ad (k + 28)), .ref (ad (k + 29)), .ref (ad (k + 30)), .ref (ad (k + 449)), .ref (ad (k + 454)), .ref (ad (k + 459)), .ref (ad (k + 461)), .ref (ad (k + 463)), .ref (ad (k + 465)), .ref (ad (k + 31)), .ref (ad (k + 465)), .int (iZ (1)), .int (iZ (1)), .int (iZ (0)), .int (iZ (0)), .int (iZ (0))])) := ⟨_, rfl⟩
        have hP : va_P D vwCl (pw (k + 468) ad G_255) H := by rw [hg255]; exact hP
        have hD : va_D A (pw (k + 468) ad G_255) := by rw [hg255]; exact hD
        have ho255 : ∀ i8 : Nat, i8 ≠ k → G_255 i8 = G_250 i8 := fun i8 hk => by rw [hg255]; exact zu_n _ _ hk
        have he255 : G_255 (k) = .inr (2, [.ref (ad (k + 1)), .ref (ad (k + 28)), .ref (ad (k + 29)), .ref (ad (k + 30)), .ref (ad (k + 449)), .ref (ad (k + 454)), .ref (ad (k + 459)), .ref (ad (k + 461)), .ref (ad (k + 463)), .ref (ad (k + 465)), .ref (ad (k + 31)), .ref (ad (k + 465)), .int (iZ (1)), .int (iZ (1)), .int (iZ (0)), .int (iZ (0)), .int (iZ (0))]) := by rw [hg255]; exact zu_s _ _ _
        have k255_0 : G_255 (k + 449) = .inr (6, [.ref (ad (k + 449 + 1)), .ref (ad (k + 449 + 3)), .int (iZ (sg139))]) := (ho255 (k + 449) (by omega)).trans (k250_0)
        have k255_1 : G_255 (k + 454) = .inr (6, [.ref (ad (k + 454 + 1)), .ref (ad (k + 454 + 3)), .int (iZ (sg154))]) := (ho255 (k + 454) (by omega)).trans (k250_1)
        have k255_2 : G_255 (k + 465) = .inr (3, [.ref (ad (k + 465 + 1)), .int (iZ (1))]) := (ho255 (k + 465) (by omega)).trans (k250_2)
        have hlo : ∀ i : Nat, i < k → ad i = ad0 i ∧ G_255 i = G0 i := fun i hi => ⟨((show ad (i) = ad (i) ∧ G_255 (i) = G_250 (i) from ⟨rfl, ho255 (i) (by omega)⟩)).1.trans (hlo i hi).1, ((show ad (i) = ad (i) ∧ G_255 (i) = G_250 (i) from ⟨rfl, ho255 (i) (by omega)⟩)).2.trans (hlo i hi).2⟩
        have har : kAr cI ad G_255 (k + 1) := har.mv (fun i h1 h2 => ⟨rfl, ho255 i (by omega)⟩)
        have hrr : kRf cR ad G_255 (k + 28) 6 6 (k + 32) 66 := hrr.mv ((show ad (k + 28) = ad (k + 28) ∧ G_255 (k + 28) = G_250 (k + 28) from ⟨rfl, ho255 (k + 28) (by omega)⟩)).2 (fun j9 h9 => ((show ad (k + 32 + 66 * j9) = ad (k + 32 + 66 * j9) ∧ G_255 (k + 32 + 66 * j9) = G_250 (k + 32 + 66 * j9) from ⟨rfl, ho255 (k + 32 + 66 * j9) (by omega)⟩)).1)
        have hru : kRf cF ad G_255 (k + 29) 6 6 (k + 93) 66 := hru.mv ((show ad (k + 29) = ad (k + 29) ∧ G_255 (k + 29) = G_250 (k + 29) from ⟨rfl, ho255 (k + 29) (by omega)⟩)).2 (fun j9 h9 => ((show ad (k + 93 + 66 * j9) = ad (k + 93 + 66 * j9) ∧ G_255 (k + 93 + 66 * j9) = G_250 (k + 93 + 66 * j9) from ⟨rfl, ho255 (k + 93 + 66 * j9) (by omega)⟩)).1)
        have hpr : ∃ PR : Nat → Int, G_255 (k + 30) = aI cI 6 PR := by obtain ⟨PR, h⟩ := hpr; exact ⟨PR, ((show ad (k + 30) = ad (k + 30) ∧ G_255 (k + 30) = G_250 (k + 30) from ⟨rfl, ho255 (k + 30) (by omega)⟩)).2.trans h⟩
        have hta0 : kRf cE ad G_255 (k + 31) 7 7 (k + 428) 3 := hta0.mv ((show ad (k + 31) = ad (k + 31) ∧ G_255 (k + 31) = G_250 (k + 31) from ⟨rfl, ho255 (k + 31) (by omega)⟩)).2 (fun j9 h9 => ((show ad (k + 428 + 3 * j9) = ad (k + 428 + 3 * j9) ∧ G_255 (k + 428 + 3 * j9) = G_250 (k + 428 + 3 * j9) from ⟨rfl, ho255 (k + 428 + 3 * j9) (by omega)⟩)).1)
        have hro : ∀ q9 : Nat, q9 < 6 → kRo cI cE cF ad G_255 (k + 32 + 66 * q9) ∧ pFh cI ad G_255 (k + 93 + 66 * q9) 46 := fun q9 h9 => ⟨(hro q9 h9).1.mv (fun i h1 h2 => ⟨rfl, ho255 i (by omega)⟩), (hro q9 h9).2.mv (fun i h1 h2 => ⟨rfl, ho255 i (by omega)⟩)⟩
        have hej : ∀ j9 : Nat, j9 < 7 → pEh cI ad G_255 (k + 428 + 3 * j9) 46 := fun j9 h9 => (hej j9 h9).mv (fun i h1 h2 => ⟨rfl, ho255 i (by omega)⟩)
        have pf139 : pFh cI ad G_255 (k + 449) (46) := pf139.mv (fun i h1 h2 => ⟨rfl, ho255 i (by omega)⟩)
        have pf154 : pFh cI ad G_255 (k + 454) (46) := pf154.mv (fun i h1 h2 => ⟨rfl, ho255 i (by omega)⟩)
        have pw167 : pHas cI ad G_255 (k + 459) (96) := pw167.mv (fun i h1 h2 => ⟨rfl, ho255 i (by omega)⟩)
        have pw180 : pHas cI ad G_255 (k + 461) (96) := pw180.mv (fun i h1 h2 => ⟨rfl, ho255 i (by omega)⟩)
        have pw193 : pHas cI ad G_255 (k + 463) (96) := pw193.mv (fun i h1 h2 => ⟨rfl, ho255 i (by omega)⟩)
        have hone : pWh cI ad G_255 (k + 465 + 1) 1 1 := hone.mv (fun i h1 h2 => ⟨rfl, ho255 i (by omega)⟩)
        refine lv_aload_n hx hb dX2_init_258 rfl (lv_at hl 1 rfl) ?_
        refine lv_iconst (v := iZ 0) hx hb dX2_init_259 rfl ?_
        refine va_put (D := D) (ci := 2) (v := .int (iZ (0))) (ty := tyX2 16) (C := RX2) (T := TX2) (N := 17) hx hb hts hin2 tyX2 tyX2_ok nmX2 hown hK hP hD hS (k) (pw_at (by omega) (he255)) rfl 16 (by decide) q_f_RX2_97_Elimination_solvable_Z (fun _ h9 => h9) rfl (tyX2_ok 16 (by decide)) rfl rfl (Nat.le_of_ble_eq_true rfl) dX2_init_260 (fun H locs hP hD hS => ?_)
        rw [pw_set] at hP hD
        obtain ⟨G_260, hg260⟩ : ∃ g : Nat → va_E, g = zu G_255 (k) (.inr (2, [.ref (ad (k + 1)), .ref (ad (k + 28)), .ref (ad (k + 29)), .ref (ad (k + 30)), .ref (ad (k + 449)), .ref (ad (k + 454)), .ref (ad (k + 459)), .ref (ad (k + 461)), .ref (ad (k + 463)), .ref (ad (k + 465)), .ref (ad (k + 31)), .ref (ad (k + 465)), .int (iZ (1)), .int (iZ (1)), .int (iZ (0)), .int (iZ (0)), .int (iZ (0))])) := ⟨_, rfl⟩
        have hP : va_P D vwCl (pw (k + 468) ad G_260) H := by rw [hg260]; exact hP
        have hD : va_D A (pw (k + 468) ad G_260) := by rw [hg260]; exact hD
        have ho260 : ∀ i8 : Nat, i8 ≠ k → G_260 i8 = G_255 i8 := fun i8 hk => by rw [hg260]; exact zu_n _ _ hk
        have he260 : G_260 (k) = .inr (2, [.ref (ad (k + 1)), .ref (ad (k + 28)), .ref (ad (k + 29)), .ref (ad (k + 30)), .ref (ad (k + 449)), .ref (ad (k + 454)), .ref (ad (k + 459)), .ref (ad (k + 461)), .ref (ad (k + 463)), .ref (ad (k + 465)), .ref (ad (k + 31)), .ref (ad (k + 465)), .int (iZ (1)), .int (iZ (1)), .int (iZ (0)), .int (iZ (0)), .int (iZ (0))]) := by rw [hg260]; exact zu_s _ _ _
        have k260_0 : G_260 (k + 449) = .inr (6, [.ref (ad (k + 449 + 1)), .ref (ad (k + 449 + 3)), .int (iZ (sg139))]) := (ho260 (k + 449) (by omega)).trans (k255_0)
        have k260_1 : G_260 (k + 454) = .inr (6, [.ref (ad (k + 454 + 1)), .ref (ad (k + 454 + 3)), .int (iZ (sg154))]) := (ho260 (k + 454) (by omega)).trans (k255_1)
        have k260_2 : G_260 (k + 465) = .inr (3, [.ref (ad (k + 465 + 1)), .int (iZ (1))]) := (ho260 (k + 465) (by omega)).trans (k255_2)
        have hlo : ∀ i : Nat, i < k → ad i = ad0 i ∧ G_260 i = G0 i := fun i hi => ⟨((show ad (i) = ad (i) ∧ G_260 (i) = G_255 (i) from ⟨rfl, ho260 (i) (by omega)⟩)).1.trans (hlo i hi).1, ((show ad (i) = ad (i) ∧ G_260 (i) = G_255 (i) from ⟨rfl, ho260 (i) (by omega)⟩)).2.trans (hlo i hi).2⟩
        have har : kAr cI ad G_260 (k + 1) := har.mv (fun i h1 h2 => ⟨rfl, ho260 i (by omega)⟩)
        have hrr : kRf cR ad G_260 (k + 28) 6 6 (k + 32) 66 := hrr.mv ((show ad (k + 28) = ad (k + 28) ∧ G_260 (k + 28) = G_255 (k + 28) from ⟨rfl, ho260 (k + 28) (by omega)⟩)).2 (fun j9 h9 => ((show ad (k + 32 + 66 * j9) = ad (k + 32 + 66 * j9) ∧ G_260 (k + 32 + 66 * j9) = G_255 (k + 32 + 66 * j9) from ⟨rfl, ho260 (k + 32 + 66 * j9) (by omega)⟩)).1)
        have hru : kRf cF ad G_260 (k + 29) 6 6 (k + 93) 66 := hru.mv ((show ad (k + 29) = ad (k + 29) ∧ G_260 (k + 29) = G_255 (k + 29) from ⟨rfl, ho260 (k + 29) (by omega)⟩)).2 (fun j9 h9 => ((show ad (k + 93 + 66 * j9) = ad (k + 93 + 66 * j9) ∧ G_260 (k + 93 + 66 * j9) = G_255 (k + 93 + 66 * j9) from ⟨rfl, ho260 (k + 93 + 66 * j9) (by omega)⟩)).1)
        have hpr : ∃ PR : Nat → Int, G_260 (k + 30) = aI cI 6 PR := by obtain ⟨PR, h⟩ := hpr; exact ⟨PR, ((show ad (k + 30) = ad (k + 30) ∧ G_260 (k + 30) = G_255 (k + 30) from ⟨rfl, ho260 (k + 30) (by omega)⟩)).2.trans h⟩
        have hta0 : kRf cE ad G_260 (k + 31) 7 7 (k + 428) 3 := hta0.mv ((show ad (k + 31) = ad (k + 31) ∧ G_260 (k + 31) = G_255 (k + 31) from ⟨rfl, ho260 (k + 31) (by omega)⟩)).2 (fun j9 h9 => ((show ad (k + 428 + 3 * j9) = ad (k + 428 + 3 * j9) ∧ G_260 (k + 428 + 3 * j9) = G_255 (k + 428 + 3 * j9) from ⟨rfl, ho260 (k + 428 + 3 * j9) (by omega)⟩)).1)
        have hro : ∀ q9 : Nat, q9 < 6 → kRo cI cE cF ad G_260 (k + 32 + 66 * q9) ∧ pFh cI ad G_260 (k + 93 + 66 * q9) 46 := fun q9 h9 => ⟨(hro q9 h9).1.mv (fun i h1 h2 => ⟨rfl, ho260 i (by omega)⟩), (hro q9 h9).2.mv (fun i h1 h2 => ⟨rfl, ho260 i (by omega)⟩)⟩
        have hej : ∀ j9 : Nat, j9 < 7 → pEh cI ad G_260 (k + 428 + 3 * j9) 46 := fun j9 h9 => (hej j9 h9).mv (fun i h1 h2 => ⟨rfl, ho260 i (by omega)⟩)
        have pf139 : pFh cI ad G_260 (k + 449) (46) := pf139.mv (fun i h1 h2 => ⟨rfl, ho260 i (by omega)⟩)
        have pf154 : pFh cI ad G_260 (k + 454) (46) := pf154.mv (fun i h1 h2 => ⟨rfl, ho260 i (by omega)⟩)
        have pw167 : pHas cI ad G_260 (k + 459) (96) := pw167.mv (fun i h1 h2 => ⟨rfl, ho260 i (by omega)⟩)
        have pw180 : pHas cI ad G_260 (k + 461) (96) := pw180.mv (fun i h1 h2 => ⟨rfl, ho260 i (by omega)⟩)
        have pw193 : pHas cI ad G_260 (k + 463) (96) := pw193.mv (fun i h1 h2 => ⟨rfl, ho260 i (by omega)⟩)
        have hone : pWh cI ad G_260 (k + 465 + 1) 1 1 := hone.mv (fun i h1 h2 => ⟨rfl, ho260 i (by omega)⟩)
        exact zr_vret hQ hx hb hr hlk dX2_init_263 hK hP hD hS (by omega) (by omega) (⟨ad, G_260, rfl, hlo, hak, ⟨⟨1, 1, 0, 0, 0, he260⟩, har, hrr, hru, hpr, hta0, hro, hej, pf139, pf154, pw167, pw180, pw193, ⟨k260_2, hone⟩⟩⟩)
      · exfalso; omega
    | succ t ih2 =>
      intro j ad G H locs ls hj hk9 har hrr hru hpr hta0 hro hej hlo hak hP hD hS hl
      obtain ⟨ft, htt, hft⟩ := hta0
      refine lv_iload_n hx hb dX2_init_103 rfl (lv_at hl 0 rfl) ?_
      refine lv_bipush (v := iZ 7) hx hb dX2_init_104 (by decide) ?_
      refine zr_icmp_ge hx hb 130 ⟨by omega, by omega⟩ ⟨by omega, by omega⟩ dX2_init_106 (by decide) (fun h_106 => ?_) (fun h_106 => ?_)
      · exfalso; omega
      · refine lv_aload_n hx hb dX2_init_109 rfl (lv_at hl 1 rfl) ?_
        refine va_get (D := D) (ci := 2) (v := .ref (ad (k + 31))) (C := RX2) (T := TX2) (N := 17) hx hb hts hin2 hown hK hP (k) (pw_at (by omega) (hk9)) rfl 10 (by decide) q_f_RX2_36_Elimination_asTold_LEntry (fun _ h9 => h9) rfl dX2_init_110 ?_
        refine lv_iload_n hx hb dX2_init_113 rfl (lv_at hl 0 rfl) ?_
        refine zk_new (D := D) (C := RX3) (T := TX3) (N := 2) (ci := 3) hx hb hts hin3 tyX3 tyX3_ok hown q_classLink_RX2_34_RX3 q_instantiable_RX3_2 q_initialized_RX3 hK hP hD hS hA rfl [.null, .int (iZ (0))] (hfX3) (by show _ ≤ 467; omega) (by show _ ≤ 12268; omega) dX2_init_114 (fun ad G H ha114 hn114 hP hD hS => ?_)
        have hl : lv_has ls 2 [(1, .int (iZ (((j : Nat) : Int)))), (0, .ref (ad (k)))] := by rw [(ha114 (k) (by omega)).1]; exact hl
        refine zk_st [.ref (ad (k + 428 + 3 * j)), .int (iZ (((j : Nat) : Int))), .ref (ad (k + 31))] (by rw [(ha114 (k + 31) (by omega)).1]) ?_
        have k114_0 : G (k) = .inr (2, [.ref (ad (k + 1)), .ref (ad (k + 28)), .ref (ad (k + 29)), .ref (ad (k + 30)), .null, .null, .null, .null, .null, .null, .ref (ad (k + 31)), .null, .int (iZ (0)), .int (iZ (0)), .int (iZ (0)), .int (iZ (0)), .int (iZ (0))]) := by rw [(ha114 (k) (by omega)).2, hk9, (ha114 (k + 1) (by omega)).1, (ha114 (k + 28) (by omega)).1, (ha114 (k + 29) (by omega)).1, (ha114 (k + 30) (by omega)).1, (ha114 (k + 31) (by omega)).1]
        have k114_1 : G (k + 31) = aR cE (7) (ft) := by rw [(ha114 (k + 31) (by omega)).2, htt]
        have hlo : ∀ i : Nat, i < k → ad i = ad0 i ∧ G i = G0 i := fun i hi => ⟨((ha114 (i) (by omega))).1.trans (hlo i hi).1, ((ha114 (i) (by omega))).2.trans (hlo i hi).2⟩
        have hak : ad k = ad0 k := ((ha114 (k) (by omega))).1.trans hak
        have har : kAr cI ad G (k + 1) := har.mv (fun i h1 h2 => ha114 i (by omega))
        have hrr : kRf cR ad G (k + 28) 6 6 (k + 32) 66 := hrr.mv ((ha114 (k + 28) (by omega))).2 (fun j9 h9 => ((ha114 (k + 32 + 66 * j9) (by omega))).1)
        have hru : kRf cF ad G (k + 29) 6 6 (k + 93) 66 := hru.mv ((ha114 (k + 29) (by omega))).2 (fun j9 h9 => ((ha114 (k + 93 + 66 * j9) (by omega))).1)
        have hpr : ∃ PR : Nat → Int, G (k + 30) = aI cI 6 PR := by obtain ⟨PR, h⟩ := hpr; exact ⟨PR, ((ha114 (k + 30) (by omega))).2.trans h⟩
        have hro : ∀ q9 : Nat, q9 < 6 → kRo cI cE cF ad G (k + 32 + 66 * q9) ∧ pFh cI ad G (k + 93 + 66 * q9) 46 := fun q9 h9 => ⟨(hro q9 h9).1.mv (fun i h1 h2 => ha114 i (by omega)), (hro q9 h9).2.mv (fun i h1 h2 => ha114 i (by omega))⟩
        have hej : ∀ j9 : Nat, j9 < j → pEh cI ad G (k + 428 + 3 * j9) 46 := fun j9 h9 => (hej j9 h9).mv (fun i h1 h2 => ha114 i (by omega))
        have hft : ∀ j9 : Nat, j9 < j → ft j9 = some (ad (k + 428 + 3 * j9)) := fun j9 h9 => by rw [hft j9 h9, ((ha114 (k + 428 + 3 * j9) (by omega))).1]
        have hP : va_P D vwCl (pw (k + 429 + 3 * j) ad G) H := by rw [show k + 429 + 3 * j = k + 428 + 3 * j + 1 by omega]; exact hP
        have hD : va_D A (pw (k + 429 + 3 * j) ad G) := by rw [show k + 429 + 3 * j = k + 428 + 3 * j + 1 by omega]; exact hD
        refine lv_dup hx hb dX2_init_117 rfl ?_
        refine lv_bipush (v := iZ 46) hx hb dX2_init_118 (by decide) ?_
        refine zc_Kv (As := [.int (iZ (46))]) (rest := [.ref (ad (k + 428 + 3 * j)), .int (iZ (((j : Nat) : Int))), .ref (ad (k + 31))]) ⟨hx, hb, hml, hown, hts⟩ (k_entry l D cI cJ cE cF cR (_) (k + 428 + 3 * j) ad G (by omega) (46) (by omega) (by omega) (hn114)) (cwI 1 hts gX2_init_X3_init rfl rfl rfl q_initialized_RX3 q_methodLink_RX2_44_yX3_init q_instanceMethod_yX3_init rfl (by decide +kernel) ⟨Nat.le_of_ble_eq_true rfl, Nat.le_of_ble_eq_true rfl⟩) hN hAO hK hP hD hS hA rfl hl.1 (Nat.le_of_ble_eq_true rfl) dX2_init_120 ⟨by show _ ≤ 467; omega, by show _ ≤ 12268; omega⟩ (fun ad G H locs ha120 hao120 pe120 hP hD hS => ?_)
        have hl : lv_has ls 2 [(1, .int (iZ (((j : Nat) : Int)))), (0, .ref (ad (k)))] := by rw [(ha120 (k) (by omega)).1]; exact hl
        refine zk_st [.ref (ad (k + 428 + 3 * j)), .int (iZ (((j : Nat) : Int))), .ref (ad (k + 31))] (by rw [(ha120 (k + 31) (by omega)).1, hao120]) ?_
        have k120_0 : G (k) = .inr (2, [.ref (ad (k + 1)), .ref (ad (k + 28)), .ref (ad (k + 29)), .ref (ad (k + 30)), .null, .null, .null, .null, .null, .null, .ref (ad (k + 31)), .null, .int (iZ (0)), .int (iZ (0)), .int (iZ (0)), .int (iZ (0)), .int (iZ (0))]) := by rw [(ha120 (k) (by omega)).2, k114_0, (ha120 (k + 1) (by omega)).1, (ha120 (k + 28) (by omega)).1, (ha120 (k + 29) (by omega)).1, (ha120 (k + 30) (by omega)).1, (ha120 (k + 31) (by omega)).1]
        have k120_1 : G (k + 31) = aR cE (7) (ft) := by rw [(ha120 (k + 31) (by omega)).2, k114_1]
        have hlo : ∀ i : Nat, i < k → ad i = ad0 i ∧ G i = G0 i := fun i hi => ⟨((ha120 (i) (by omega))).1.trans (hlo i hi).1, ((ha120 (i) (by omega))).2.trans (hlo i hi).2⟩
        have hak : ad k = ad0 k := ((ha120 (k) (by omega))).1.trans hak
        have har : kAr cI ad G (k + 1) := har.mv (fun i h1 h2 => ha120 i (by omega))
        have hrr : kRf cR ad G (k + 28) 6 6 (k + 32) 66 := hrr.mv ((ha120 (k + 28) (by omega))).2 (fun j9 h9 => ((ha120 (k + 32 + 66 * j9) (by omega))).1)
        have hru : kRf cF ad G (k + 29) 6 6 (k + 93) 66 := hru.mv ((ha120 (k + 29) (by omega))).2 (fun j9 h9 => ((ha120 (k + 93 + 66 * j9) (by omega))).1)
        have hpr : ∃ PR : Nat → Int, G (k + 30) = aI cI 6 PR := by obtain ⟨PR, h⟩ := hpr; exact ⟨PR, ((ha120 (k + 30) (by omega))).2.trans h⟩
        have hro : ∀ q9 : Nat, q9 < 6 → kRo cI cE cF ad G (k + 32 + 66 * q9) ∧ pFh cI ad G (k + 93 + 66 * q9) 46 := fun q9 h9 => ⟨(hro q9 h9).1.mv (fun i h1 h2 => ha120 i (by omega)), (hro q9 h9).2.mv (fun i h1 h2 => ha120 i (by omega))⟩
        have hej : ∀ j9 : Nat, j9 < j → pEh cI ad G (k + 428 + 3 * j9) 46 := fun j9 h9 => (hej j9 h9).mv (fun i h1 h2 => ha120 i (by omega))
        have hft : ∀ j9 : Nat, j9 < j → ft j9 = some (ad (k + 428 + 3 * j9)) := fun j9 h9 => by rw [hft j9 h9, ((ha120 (k + 428 + 3 * j9) (by omega))).1]
        have hP : va_P D vwCl (pw (k + 431 + 3 * j) ad G) H := by rw [show k + 431 + 3 * j = k + 428 + 3 * j + 3 by omega]; exact hP
        have hD : va_D A (pw (k + 431 + 3 * j) ad G) := by rw [show k + 431 + 3 * j = k + 428 + 3 * j + 3 by omega]; exact hD
        have pe120 : pEh cI ad G (k + 428 + 3 * j) (46) := pe120
        obtain ⟨⟨sg120, hsg120⟩, _⟩ := id pe120
        refine zr_aast hx hb hK hP hD hS (k + 31) 2 (k + 428 + 3 * j) 3 (pw_at (by omega) (k120_1)) rfl (pw_at (by omega) (hsg120)) rfl (j) (by omega) (by omega) (by omega) dX2_init_123 (fun H locs hP hD hS => ?_)
        rw [pw_set] at hP hD
        obtain ⟨G_123, hg123⟩ : ∃ g : Nat → va_E, g = zu G (k + 31) (aR cE (7) (zu (ft) (j) (some (ad (k + 428 + 3 * j))))) := ⟨_, rfl⟩
        have hP : va_P D vwCl (pw (k + 431 + 3 * j) ad G_123) H := by rw [hg123]; exact hP
        have hD : va_D A (pw (k + 431 + 3 * j) ad G_123) := by rw [hg123]; exact hD
        have ho123 : ∀ i8 : Nat, i8 ≠ k + 31 → G_123 i8 = G i8 := fun i8 hk => by rw [hg123]; exact zu_n _ _ hk
        have he123 : G_123 (k + 31) = aR cE (7) (zu (ft) (j) (some (ad (k + 428 + 3 * j)))) := by rw [hg123]; exact zu_s _ _ _
        have k123_0 : G_123 (k) = .inr (2, [.ref (ad (k + 1)), .ref (ad (k + 28)), .ref (ad (k + 29)), .ref (ad (k + 30)), .null, .null, .null, .null, .null, .null, .ref (ad (k + 31)), .null, .int (iZ (0)), .int (iZ (0)), .int (iZ (0)), .int (iZ (0)), .int (iZ (0))]) := (ho123 (k) (by omega)).trans (k120_0)
        have k123_2 : G_123 (k + 428 + 3 * j) = .inr (3, [.ref (ad (k + 428 + 3 * j + 1)), .int (iZ (sg120))]) := (ho123 (k + 428 + 3 * j) (by omega)).trans (hsg120)
        have hlo : ∀ i : Nat, i < k → ad i = ad0 i ∧ G_123 i = G0 i := fun i hi => ⟨((show ad (i) = ad (i) ∧ G_123 (i) = G (i) from ⟨rfl, ho123 (i) (by omega)⟩)).1.trans (hlo i hi).1, ((show ad (i) = ad (i) ∧ G_123 (i) = G (i) from ⟨rfl, ho123 (i) (by omega)⟩)).2.trans (hlo i hi).2⟩
        have har : kAr cI ad G_123 (k + 1) := har.mv (fun i h1 h2 => ⟨rfl, ho123 i (by omega)⟩)
        have hrr : kRf cR ad G_123 (k + 28) 6 6 (k + 32) 66 := hrr.mv ((show ad (k + 28) = ad (k + 28) ∧ G_123 (k + 28) = G (k + 28) from ⟨rfl, ho123 (k + 28) (by omega)⟩)).2 (fun j9 h9 => ((show ad (k + 32 + 66 * j9) = ad (k + 32 + 66 * j9) ∧ G_123 (k + 32 + 66 * j9) = G (k + 32 + 66 * j9) from ⟨rfl, ho123 (k + 32 + 66 * j9) (by omega)⟩)).1)
        have hru : kRf cF ad G_123 (k + 29) 6 6 (k + 93) 66 := hru.mv ((show ad (k + 29) = ad (k + 29) ∧ G_123 (k + 29) = G (k + 29) from ⟨rfl, ho123 (k + 29) (by omega)⟩)).2 (fun j9 h9 => ((show ad (k + 93 + 66 * j9) = ad (k + 93 + 66 * j9) ∧ G_123 (k + 93 + 66 * j9) = G (k + 93 + 66 * j9) from ⟨rfl, ho123 (k + 93 + 66 * j9) (by omega)⟩)).1)
        have hpr : ∃ PR : Nat → Int, G_123 (k + 30) = aI cI 6 PR := by obtain ⟨PR, h⟩ := hpr; exact ⟨PR, ((show ad (k + 30) = ad (k + 30) ∧ G_123 (k + 30) = G (k + 30) from ⟨rfl, ho123 (k + 30) (by omega)⟩)).2.trans h⟩
        have hro : ∀ q9 : Nat, q9 < 6 → kRo cI cE cF ad G_123 (k + 32 + 66 * q9) ∧ pFh cI ad G_123 (k + 93 + 66 * q9) 46 := fun q9 h9 => ⟨(hro q9 h9).1.mv (fun i h1 h2 => ⟨rfl, ho123 i (by omega)⟩), (hro q9 h9).2.mv (fun i h1 h2 => ⟨rfl, ho123 i (by omega)⟩)⟩
        have hej : ∀ j9 : Nat, j9 < j → pEh cI ad G_123 (k + 428 + 3 * j9) 46 := fun j9 h9 => (hej j9 h9).mv (fun i h1 h2 => ⟨rfl, ho123 i (by omega)⟩)
        have pe120 : pEh cI ad G_123 (k + 428 + 3 * j) (46) := pe120.mv (fun i h1 h2 => ⟨rfl, ho123 i (by omega)⟩)
        refine lv_iinc (v := iZ (((j + 1 : Nat) : Int))) (lv' := [(1, .int (iZ (((j + 1 : Nat) : Int)))), (0, .ref (ad (k)))]) hx hb dX2_init_124 hl (k := 0) rfl (by rw [show ((j + 1 : Nat) : Int) = ((j : Nat) : Int) + 1 by omega]; exact iZ_add _ _) (by decide) rfl (fun ls hl => ?_)
        refine lv_goto (tgt := 103) hx hb dX2_init_127 (by decide) ?_
        refine zk_cs (c' := 427 + 3 * (j + 1)) (s' := 11421 + 50 * (j + 1)) (by omega) (by omega) ?_
        exact ih2 (j + 1) ad G_123 H locs ls (by omega) k123_0 har hrr hru hpr ⟨_, he123, fun j9 h9 => by
            by_cases q9 : j9 = j
            · rw [q9]; exact zu_s _ _ _
            · rw [zu_n _ _ q9]; exact hft j9 (by omega)⟩ hro (fun j9 h9 => by
            by_cases q9 : j9 = j
            · rw [q9]; exact pe120
            · exact hej j9 (by omega)) hlo hak (by rw [show k + 428 + 3 * (j + 1) = k + 431 + 3 * j by omega]; exact hP) (by rw [show k + 428 + 3 * (j + 1) = k + 431 + 3 * j by omega]; exact hD) hS hl
  have hloop1 : ∀ (t : Nat) (i : Nat) (ad : Nat → Nat) (G : Nat → va_E) (H : Heap) (locs : List Loc) (ls : Array Slot), (i + t = 6) → (G (k) = .inr (2, [.ref (ad (k + 1)), .ref (ad (k + 28)), .ref (ad (k + 29)), .ref (ad (k + 30)), .null, .null, .null, .null, .null, .null, .ref (ad (k + 31)), .null, .int (iZ (0)), .int (iZ (0)), .int (iZ (0)), .int (iZ (0)), .int (iZ (0))])) → (kAr cI ad G (k + 1)) → (kRf cR ad G (k + 28) 6 i (k + 32) 66) → (kRf cF ad G (k + 29) 6 i (k + 93) 66) → (∃ PR : Nat → Int, G (k + 30) = aI cI 6 PR) → (kRf cE ad G (k + 31) 7 0 (k + 428) 3) → (∀ q9 : Nat, q9 < i → kRo cI cE cF ad G (k + 32 + 66 * q9) ∧ pFh cI ad G (k + 93 + 66 * q9) 46) → (∀ i : Nat, i < k → ad i = ad0 i ∧ G i = G0 i) → (ad k = ad0 k) →  va_P D vwCl (pw (k + 32 + 66 * i) ad G) H → va_D A (pw (k + 32 + 66 * i) ad G) → va_S A s.heap H locs → lv_has ls 2 [(1, .int (iZ (((i : Nat) : Int)))), (0, .ref (ad (k)))] → W zp l ze ({ frames := 4, cells := 467, slots := 12268, locals := 87 } : Room) s zm args below meth zc H locs (31 + 66 * i) (1317 + 1684 * i) Q (F0 zm 52 ls []) := by
    intro t
    induction t with
    | zero =>
      intro i ad G H locs ls hj hk9 har hrr0 hru0 hpr0 hta hro hlo hak hP hD hS hl
      obtain rfl : i = 6 := by omega
      have hP : va_P D vwCl (pw (k + 428) ad G) H := hP
      have hD : va_D A (pw (k + 428) ad G) := hD
      refine lv_iload_n hx hb dX2_init_52 rfl (lv_at hl 0 rfl) ?_
      refine lv_bipush (v := iZ 6) hx hb dX2_init_53 (by decide) ?_
      refine zr_icmp_ge hx hb 101 ⟨by omega, by omega⟩ ⟨by omega, by omega⟩ dX2_init_55 (by decide) (fun h_55 => ?_) (fun h_55 => ?_)
      · refine lv_iconst (v := iZ 0) hx hb dX2_init_101 rfl ?_
        refine lv_istore_n (lv' := [(1, .int (iZ (0))), (0, .ref (ad (k)))]) hx hb dX2_init_102 rfl hl (by decide) rfl (fun ls hl => ?_)
        refine zk_cs (c' := 427 + 3 * 0) (s' := 11421 + 50 * 0) (by omega) (by omega) ?_
        exact hloop2 7 0 ad G H locs ls rfl hk9 har hrr0 hru0 hpr0 hta hro (fun j9 h9 => absurd h9 (Nat.not_lt_zero j9)) hlo hak hP hD hS hl
      · exfalso; omega
    | succ t ih1 =>
      intro i ad G H locs ls hj hk9 har hrr0 hru0 hpr0 hta hro hlo hak hP hD hS hl
      obtain ⟨fr, htr, hfr⟩ := hrr0
      obtain ⟨fu, htu, hfu⟩ := hru0
      obtain ⟨PR, hPR⟩ := hpr0
      refine lv_iload_n hx hb dX2_init_52 rfl (lv_at hl 0 rfl) ?_
      refine lv_bipush (v := iZ 6) hx hb dX2_init_53 (by decide) ?_
      refine zr_icmp_ge hx hb 101 ⟨by omega, by omega⟩ ⟨by omega, by omega⟩ dX2_init_55 (by decide) (fun h_55 => ?_) (fun h_55 => ?_)
      · exfalso; omega
      · refine lv_aload_n hx hb dX2_init_58 rfl (lv_at hl 1 rfl) ?_
        refine va_get (D := D) (ci := 2) (v := .ref (ad (k + 28))) (C := RX2) (T := TX2) (N := 17) hx hb hts hin2 hown hK hP (k) (pw_at (by omega) (hk9)) rfl 1 (by decide) q_f_RX2_20_Elimination_rows_LRow (fun _ h9 => h9) rfl dX2_init_59 ?_
        refine lv_iload_n hx hb dX2_init_62 rfl (lv_at hl 0 rfl) ?_
        refine zk_new (D := D) (C := RX8) (T := TX8) (N := 4) (ci := 8) hx hb hts hin8 tyX8 tyX8_ok hown q_classLink_RX2_18_RX8 q_instantiable_RX8_4 q_initialized_RX8 hK hP hD hS hA rfl [.null, .null, .null, .int (iZ (0))] (hfX8) (by show _ ≤ 467; omega) (by show _ ≤ 12268; omega) dX2_init_63 (fun ad G H ha63 hn63 hP hD hS => ?_)
        have hl : lv_has ls 2 [(1, .int (iZ (((i : Nat) : Int)))), (0, .ref (ad (k)))] := by rw [(ha63 (k) (by omega)).1]; exact hl
        refine zk_st [.ref (ad (k + 32 + 66 * i)), .int (iZ (((i : Nat) : Int))), .ref (ad (k + 28))] (by rw [(ha63 (k + 28) (by omega)).1]) ?_
        have k63_0 : G (k) = .inr (2, [.ref (ad (k + 1)), .ref (ad (k + 28)), .ref (ad (k + 29)), .ref (ad (k + 30)), .null, .null, .null, .null, .null, .null, .ref (ad (k + 31)), .null, .int (iZ (0)), .int (iZ (0)), .int (iZ (0)), .int (iZ (0)), .int (iZ (0))]) := by rw [(ha63 (k) (by omega)).2, hk9, (ha63 (k + 1) (by omega)).1, (ha63 (k + 28) (by omega)).1, (ha63 (k + 29) (by omega)).1, (ha63 (k + 30) (by omega)).1, (ha63 (k + 31) (by omega)).1]
        have k63_1 : G (k + 28) = aR cR (6) (fr) := by rw [(ha63 (k + 28) (by omega)).2, htr]
        have k63_2 : G (k + 29) = aR cF (6) (fu) := by rw [(ha63 (k + 29) (by omega)).2, htu]
        have k63_3 : G (k + 30) = aI cI (6) (PR) := by rw [(ha63 (k + 30) (by omega)).2, hPR]
        have hlo : ∀ i : Nat, i < k → ad i = ad0 i ∧ G i = G0 i := fun i hi => ⟨((ha63 (i) (by omega))).1.trans (hlo i hi).1, ((ha63 (i) (by omega))).2.trans (hlo i hi).2⟩
        have hak : ad k = ad0 k := ((ha63 (k) (by omega))).1.trans hak
        have har : kAr cI ad G (k + 1) := har.mv (fun i h1 h2 => ha63 i (by omega))
        have hta : kRf cE ad G (k + 31) 7 0 (k + 428) 3 := hta.mv ((ha63 (k + 31) (by omega))).2 (fun j9 h9 => absurd h9 (Nat.not_lt_zero j9))
        have hro : ∀ q9 : Nat, q9 < i → kRo cI cE cF ad G (k + 32 + 66 * q9) ∧ pFh cI ad G (k + 93 + 66 * q9) 46 := fun q9 h9 => ⟨(hro q9 h9).1.mv (fun i h1 h2 => ha63 i (by omega)), (hro q9 h9).2.mv (fun i h1 h2 => ha63 i (by omega))⟩
        have hfr : ∀ j9 : Nat, j9 < i → fr j9 = some (ad (k + 32 + 66 * j9)) := fun j9 h9 => by rw [hfr j9 h9, ((ha63 (k + 32 + 66 * j9) (by omega))).1]
        have hfu : ∀ j9 : Nat, j9 < i → fu j9 = some (ad (k + 93 + 66 * j9)) := fun j9 h9 => by rw [hfu j9 h9, ((ha63 (k + 93 + 66 * j9) (by omega))).1]
        have hP : va_P D vwCl (pw (k + 33 + 66 * i) ad G) H := by rw [show k + 33 + 66 * i = k + 32 + 66 * i + 1 by omega]; exact hP
        have hD : va_D A (pw (k + 33 + 66 * i) ad G) := by rw [show k + 33 + 66 * i = k + 32 + 66 * i + 1 by omega]; exact hD
        refine lv_dup hx hb dX2_init_66 rfl ?_
        refine zc_Kv (As := []) (rest := [.ref (ad (k + 32 + 66 * i)), .int (iZ (((i : Nat) : Int))), .ref (ad (k + 28))]) ⟨hx, hb, hml, hown, hts⟩ (k_row l D cI cJ cE cF cR (_) (k + 32 + 66 * i) ad G (by omega) (hn63)) (cwI 0 hts gX2_init_X8_init rfl rfl rfl q_initialized_RX8 q_methodLink_RX2_40_yX8_init q_instanceMethod_yX8_init rfl (by decide +kernel) ⟨Nat.le_of_ble_eq_true rfl, Nat.le_of_ble_eq_true rfl⟩) hN hAO hK hP hD hS hA rfl hl.1 (Nat.le_of_ble_eq_true rfl) dX2_init_67 ⟨by show _ ≤ 467; omega, by show _ ≤ 12268; omega⟩ (fun ad G H locs ha67 hao67 pr67 hP hD hS => ?_)
        have hl : lv_has ls 2 [(1, .int (iZ (((i : Nat) : Int)))), (0, .ref (ad (k)))] := by rw [(ha67 (k) (by omega)).1]; exact hl
        refine zk_st [.ref (ad (k + 32 + 66 * i)), .int (iZ (((i : Nat) : Int))), .ref (ad (k + 28))] (by rw [(ha67 (k + 28) (by omega)).1, hao67]) ?_
        have k67_0 : G (k) = .inr (2, [.ref (ad (k + 1)), .ref (ad (k + 28)), .ref (ad (k + 29)), .ref (ad (k + 30)), .null, .null, .null, .null, .null, .null, .ref (ad (k + 31)), .null, .int (iZ (0)), .int (iZ (0)), .int (iZ (0)), .int (iZ (0)), .int (iZ (0))]) := by rw [(ha67 (k) (by omega)).2, k63_0, (ha67 (k + 1) (by omega)).1, (ha67 (k + 28) (by omega)).1, (ha67 (k + 29) (by omega)).1, (ha67 (k + 30) (by omega)).1, (ha67 (k + 31) (by omega)).1]
        have k67_1 : G (k + 28) = aR cR (6) (fr) := by rw [(ha67 (k + 28) (by omega)).2, k63_1]
        have k67_2 : G (k + 29) = aR cF (6) (fu) := by rw [(ha67 (k + 29) (by omega)).2, k63_2]
        have k67_3 : G (k + 30) = aI cI (6) (PR) := by rw [(ha67 (k + 30) (by omega)).2, k63_3]
        have hlo : ∀ i : Nat, i < k → ad i = ad0 i ∧ G i = G0 i := fun i hi => ⟨((ha67 (i) (by omega))).1.trans (hlo i hi).1, ((ha67 (i) (by omega))).2.trans (hlo i hi).2⟩
        have hak : ad k = ad0 k := ((ha67 (k) (by omega))).1.trans hak
        have har : kAr cI ad G (k + 1) := har.mv (fun i h1 h2 => ha67 i (by omega))
        have hta : kRf cE ad G (k + 31) 7 0 (k + 428) 3 := hta.mv ((ha67 (k + 31) (by omega))).2 (fun j9 h9 => absurd h9 (Nat.not_lt_zero j9))
        have hro : ∀ q9 : Nat, q9 < i → kRo cI cE cF ad G (k + 32 + 66 * q9) ∧ pFh cI ad G (k + 93 + 66 * q9) 46 := fun q9 h9 => ⟨(hro q9 h9).1.mv (fun i h1 h2 => ha67 i (by omega)), (hro q9 h9).2.mv (fun i h1 h2 => ha67 i (by omega))⟩
        have hfr : ∀ j9 : Nat, j9 < i → fr j9 = some (ad (k + 32 + 66 * j9)) := fun j9 h9 => by rw [hfr j9 h9, ((ha67 (k + 32 + 66 * j9) (by omega))).1]
        have hfu : ∀ j9 : Nat, j9 < i → fu j9 = some (ad (k + 93 + 66 * j9)) := fun j9 h9 => by rw [hfu j9 h9, ((ha67 (k + 93 + 66 * j9) (by omega))).1]
        have hP : va_P D vwCl (pw (k + 93 + 66 * i) ad G) H := by rw [show k + 93 + 66 * i = k + 32 + 66 * i + 61 by omega]; exact hP
        have hD : va_D A (pw (k + 93 + 66 * i) ad G) := by rw [show k + 93 + 66 * i = k + 32 + 66 * i + 61 by omega]; exact hD
        have pr67 : kRo cI cE cF ad G (k + 32 + 66 * i) := pr67
        obtain ⟨⟨rc67, hrc67⟩, _⟩ := id pr67
        refine zr_aast hx hb hK hP hD hS (k + 28) 4 (k + 32 + 66 * i) 8 (pw_at (by omega) (k67_1)) rfl (pw_at (by omega) (hrc67)) rfl (i) (by omega) (by omega) (by omega) dX2_init_70 (fun H locs hP hD hS => ?_)
        rw [pw_set] at hP hD
        obtain ⟨G_70, hg70⟩ : ∃ g : Nat → va_E, g = zu G (k + 28) (aR cR (6) (zu (fr) (i) (some (ad (k + 32 + 66 * i))))) := ⟨_, rfl⟩
        have hP : va_P D vwCl (pw (k + 93 + 66 * i) ad G_70) H := by rw [hg70]; exact hP
        have hD : va_D A (pw (k + 93 + 66 * i) ad G_70) := by rw [hg70]; exact hD
        have ho70 : ∀ i8 : Nat, i8 ≠ k + 28 → G_70 i8 = G i8 := fun i8 hk => by rw [hg70]; exact zu_n _ _ hk
        have he70 : G_70 (k + 28) = aR cR (6) (zu (fr) (i) (some (ad (k + 32 + 66 * i)))) := by rw [hg70]; exact zu_s _ _ _
        have k70_0 : G_70 (k) = .inr (2, [.ref (ad (k + 1)), .ref (ad (k + 28)), .ref (ad (k + 29)), .ref (ad (k + 30)), .null, .null, .null, .null, .null, .null, .ref (ad (k + 31)), .null, .int (iZ (0)), .int (iZ (0)), .int (iZ (0)), .int (iZ (0)), .int (iZ (0))]) := (ho70 (k) (by omega)).trans (k67_0)
        have k70_2 : G_70 (k + 29) = aR cF (6) (fu) := (ho70 (k + 29) (by omega)).trans (k67_2)
        have k70_3 : G_70 (k + 30) = aI cI (6) (PR) := (ho70 (k + 30) (by omega)).trans (k67_3)
        have k70_4 : G_70 (k + 32 + 66 * i) = .inr (8, [.ref (ad (k + 32 + 66 * i + 1)), .ref (ad (k + 32 + 66 * i + 2)), .ref (ad (k + 32 + 66 * i + 59)), .int (iZ (rc67))]) := (ho70 (k + 32 + 66 * i) (by omega)).trans (hrc67)
        have hlo : ∀ i : Nat, i < k → ad i = ad0 i ∧ G_70 i = G0 i := fun i hi => ⟨((show ad (i) = ad (i) ∧ G_70 (i) = G (i) from ⟨rfl, ho70 (i) (by omega)⟩)).1.trans (hlo i hi).1, ((show ad (i) = ad (i) ∧ G_70 (i) = G (i) from ⟨rfl, ho70 (i) (by omega)⟩)).2.trans (hlo i hi).2⟩
        have har : kAr cI ad G_70 (k + 1) := har.mv (fun i h1 h2 => ⟨rfl, ho70 i (by omega)⟩)
        have hta : kRf cE ad G_70 (k + 31) 7 0 (k + 428) 3 := hta.mv ((show ad (k + 31) = ad (k + 31) ∧ G_70 (k + 31) = G (k + 31) from ⟨rfl, ho70 (k + 31) (by omega)⟩)).2 (fun j9 h9 => absurd h9 (Nat.not_lt_zero j9))
        have hro : ∀ q9 : Nat, q9 < i → kRo cI cE cF ad G_70 (k + 32 + 66 * q9) ∧ pFh cI ad G_70 (k + 93 + 66 * q9) 46 := fun q9 h9 => ⟨(hro q9 h9).1.mv (fun i h1 h2 => ⟨rfl, ho70 i (by omega)⟩), (hro q9 h9).2.mv (fun i h1 h2 => ⟨rfl, ho70 i (by omega)⟩)⟩
        have pr67 : kRo cI cE cF ad G_70 (k + 32 + 66 * i) := pr67.mv (fun i h1 h2 => ⟨rfl, ho70 i (by omega)⟩)
        refine lv_aload_n hx hb dX2_init_71 rfl (lv_at hl 1 rfl) ?_
        refine va_get (D := D) (ci := 2) (v := .ref (ad (k + 29))) (C := RX2) (T := TX2) (N := 17) hx hb hts hin2 hown hK hP (k) (pw_at (by omega) (k70_0)) rfl 2 (by decide) q_f_RX2_26_Elimination_unknowns_LFraction (fun _ h9 => h9) rfl dX2_init_72 ?_
        refine lv_iload_n hx hb dX2_init_75 rfl (lv_at hl 0 rfl) ?_
        refine zk_new (D := D) (C := RX6) (T := TX6) (N := 3) (ci := 6) hx hb hts hin6 tyX6 tyX6_ok hown q_classLink_RX2_24_RX6 q_instantiable_RX6_3 q_initialized_RX6 hK hP hD hS hA rfl [.null, .null, .int (iZ (0))] (hfX6) (by show _ ≤ 467; omega) (by show _ ≤ 12268; omega) dX2_init_76 (fun ad G H ha76 hn76 hP hD hS => ?_)
        have hl : lv_has ls 2 [(1, .int (iZ (((i : Nat) : Int)))), (0, .ref (ad (k)))] := by rw [(ha76 (k) (by omega)).1]; exact hl
        refine zk_st [.ref (ad (k + 93 + 66 * i)), .int (iZ (((i : Nat) : Int))), .ref (ad (k + 29))] (by rw [(ha76 (k + 29) (by omega)).1]) ?_
        have k76_0 : G (k) = .inr (2, [.ref (ad (k + 1)), .ref (ad (k + 28)), .ref (ad (k + 29)), .ref (ad (k + 30)), .null, .null, .null, .null, .null, .null, .ref (ad (k + 31)), .null, .int (iZ (0)), .int (iZ (0)), .int (iZ (0)), .int (iZ (0)), .int (iZ (0))]) := by rw [(ha76 (k) (by omega)).2, k70_0, (ha76 (k + 1) (by omega)).1, (ha76 (k + 28) (by omega)).1, (ha76 (k + 29) (by omega)).1, (ha76 (k + 30) (by omega)).1, (ha76 (k + 31) (by omega)).1]
        have k76_1 : G (k + 29) = aR cF (6) (fu) := by rw [(ha76 (k + 29) (by omega)).2, k70_2]
        have k76_2 : G (k + 30) = aI cI (6) (PR) := by rw [(ha76 (k + 30) (by omega)).2, k70_3]
        have k76_3 : G (k + 32 + 66 * i) = .inr (8, [.ref (ad (k + 32 + 66 * i + 1)), .ref (ad (k + 32 + 66 * i + 2)), .ref (ad (k + 32 + 66 * i + 59)), .int (iZ (rc67))]) := by rw [(ha76 (k + 32 + 66 * i) (by omega)).2, k70_4, (ha76 (k + 32 + 66 * i + 1) (by omega)).1, (ha76 (k + 32 + 66 * i + 2) (by omega)).1, (ha76 (k + 32 + 66 * i + 59) (by omega)).1]
        have k76_4 : G (k + 28) = aR cR (6) (zu (fr) (i) (some (ad (k + 32 + 66 * i)))) := by rw [(ha76 (k + 28) (by omega)).2, he70, (ha76 (k + 32 + 66 * i) (by omega)).1]
        have hlo : ∀ i : Nat, i < k → ad i = ad0 i ∧ G i = G0 i := fun i hi => ⟨((ha76 (i) (by omega))).1.trans (hlo i hi).1, ((ha76 (i) (by omega))).2.trans (hlo i hi).2⟩
        have hak : ad k = ad0 k := ((ha76 (k) (by omega))).1.trans hak
        have har : kAr cI ad G (k + 1) := har.mv (fun i h1 h2 => ha76 i (by omega))
        have hta : kRf cE ad G (k + 31) 7 0 (k + 428) 3 := hta.mv ((ha76 (k + 31) (by omega))).2 (fun j9 h9 => absurd h9 (Nat.not_lt_zero j9))
        have hro : ∀ q9 : Nat, q9 < i → kRo cI cE cF ad G (k + 32 + 66 * q9) ∧ pFh cI ad G (k + 93 + 66 * q9) 46 := fun q9 h9 => ⟨(hro q9 h9).1.mv (fun i h1 h2 => ha76 i (by omega)), (hro q9 h9).2.mv (fun i h1 h2 => ha76 i (by omega))⟩
        have hfr : ∀ j9 : Nat, j9 < i → fr j9 = some (ad (k + 32 + 66 * j9)) := fun j9 h9 => by rw [hfr j9 h9, ((ha76 (k + 32 + 66 * j9) (by omega))).1]
        have hfu : ∀ j9 : Nat, j9 < i → fu j9 = some (ad (k + 93 + 66 * j9)) := fun j9 h9 => by rw [hfu j9 h9, ((ha76 (k + 93 + 66 * j9) (by omega))).1]
        have pr67 : kRo cI cE cF ad G (k + 32 + 66 * i) := pr67.mv (fun i h1 h2 => ha76 i (by omega))
        have hP : va_P D vwCl (pw (k + 94 + 66 * i) ad G) H := by rw [show k + 94 + 66 * i = k + 93 + 66 * i + 1 by omega]; exact hP
        have hD : va_D A (pw (k + 94 + 66 * i) ad G) := by rw [show k + 94 + 66 * i = k + 93 + 66 * i + 1 by omega]; exact hD
        refine lv_dup hx hb dX2_init_79 rfl ?_
        refine lv_bipush (v := iZ 46) hx hb dX2_init_80 (by decide) ?_
        refine lv_bipush (v := iZ 46) hx hb dX2_init_82 (by decide) ?_
        refine zc_Kv (As := [.int (iZ (46)), .int (iZ (46))]) (rest := [.ref (ad (k + 93 + 66 * i)), .int (iZ (((i : Nat) : Int))), .ref (ad (k + 29))]) ⟨hx, hb, hml, hown, hts⟩ (k_frac l D cI cJ cE cF cR (_) (k + 93 + 66 * i) ad G (by omega) (46) (by omega) (by omega) (hn76)) (cwI 2 hts gX2_init_X6_init rfl rfl rfl q_initialized_RX6 q_methodLink_RX2_41_yX6_init q_instanceMethod_yX6_init rfl (by decide +kernel) ⟨Nat.le_of_ble_eq_true rfl, Nat.le_of_ble_eq_true rfl⟩) hN hAO hK hP hD hS hA rfl hl.1 (Nat.le_of_ble_eq_true rfl) dX2_init_84 ⟨by show _ ≤ 467; omega, by show _ ≤ 12268; omega⟩ (fun ad G H locs ha84 hao84 pf84 hP hD hS => ?_)
        have hl : lv_has ls 2 [(1, .int (iZ (((i : Nat) : Int)))), (0, .ref (ad (k)))] := by rw [(ha84 (k) (by omega)).1]; exact hl
        refine zk_st [.ref (ad (k + 93 + 66 * i)), .int (iZ (((i : Nat) : Int))), .ref (ad (k + 29))] (by rw [(ha84 (k + 29) (by omega)).1, hao84]) ?_
        have k84_0 : G (k) = .inr (2, [.ref (ad (k + 1)), .ref (ad (k + 28)), .ref (ad (k + 29)), .ref (ad (k + 30)), .null, .null, .null, .null, .null, .null, .ref (ad (k + 31)), .null, .int (iZ (0)), .int (iZ (0)), .int (iZ (0)), .int (iZ (0)), .int (iZ (0))]) := by rw [(ha84 (k) (by omega)).2, k76_0, (ha84 (k + 1) (by omega)).1, (ha84 (k + 28) (by omega)).1, (ha84 (k + 29) (by omega)).1, (ha84 (k + 30) (by omega)).1, (ha84 (k + 31) (by omega)).1]
        have k84_1 : G (k + 29) = aR cF (6) (fu) := by rw [(ha84 (k + 29) (by omega)).2, k76_1]
        have k84_2 : G (k + 30) = aI cI (6) (PR) := by rw [(ha84 (k + 30) (by omega)).2, k76_2]
        have k84_3 : G (k + 32 + 66 * i) = .inr (8, [.ref (ad (k + 32 + 66 * i + 1)), .ref (ad (k + 32 + 66 * i + 2)), .ref (ad (k + 32 + 66 * i + 59)), .int (iZ (rc67))]) := by rw [(ha84 (k + 32 + 66 * i) (by omega)).2, k76_3, (ha84 (k + 32 + 66 * i + 1) (by omega)).1, (ha84 (k + 32 + 66 * i + 2) (by omega)).1, (ha84 (k + 32 + 66 * i + 59) (by omega)).1]
        have k84_4 : G (k + 28) = aR cR (6) (zu (fr) (i) (some (ad (k + 32 + 66 * i)))) := by rw [(ha84 (k + 28) (by omega)).2, k76_4, (ha84 (k + 32 + 66 * i) (by omega)).1]
        have hlo : ∀ i : Nat, i < k → ad i = ad0 i ∧ G i = G0 i := fun i hi => ⟨((ha84 (i) (by omega))).1.trans (hlo i hi).1, ((ha84 (i) (by omega))).2.trans (hlo i hi).2⟩
        have hak : ad k = ad0 k := ((ha84 (k) (by omega))).1.trans hak
        have har : kAr cI ad G (k + 1) := har.mv (fun i h1 h2 => ha84 i (by omega))
        have hta : kRf cE ad G (k + 31) 7 0 (k + 428) 3 := hta.mv ((ha84 (k + 31) (by omega))).2 (fun j9 h9 => absurd h9 (Nat.not_lt_zero j9))
        have hro : ∀ q9 : Nat, q9 < i → kRo cI cE cF ad G (k + 32 + 66 * q9) ∧ pFh cI ad G (k + 93 + 66 * q9) 46 := fun q9 h9 => ⟨(hro q9 h9).1.mv (fun i h1 h2 => ha84 i (by omega)), (hro q9 h9).2.mv (fun i h1 h2 => ha84 i (by omega))⟩
        have hfr : ∀ j9 : Nat, j9 < i → fr j9 = some (ad (k + 32 + 66 * j9)) := fun j9 h9 => by rw [hfr j9 h9, ((ha84 (k + 32 + 66 * j9) (by omega))).1]
        have hfu : ∀ j9 : Nat, j9 < i → fu j9 = some (ad (k + 93 + 66 * j9)) := fun j9 h9 => by rw [hfu j9 h9, ((ha84 (k + 93 + 66 * j9) (by omega))).1]
        have pr67 : kRo cI cE cF ad G (k + 32 + 66 * i) := pr67.mv (fun i h1 h2 => ha84 i (by omega))
        have hP : va_P D vwCl (pw (k + 98 + 66 * i) ad G) H := by rw [show k + 98 + 66 * i = k + 93 + 66 * i + 5 by omega]; exact hP
        have hD : va_D A (pw (k + 98 + 66 * i) ad G) := by rw [show k + 98 + 66 * i = k + 93 + 66 * i + 5 by omega]; exact hD
        have pf84 : pFh cI ad G (k + 93 + 66 * i) (46) := pf84
        obtain ⟨⟨sg84, hsg84⟩, _⟩ := id pf84
        refine zr_aast hx hb hK hP hD hS (k + 29) 3 (k + 93 + 66 * i) 6 (pw_at (by omega) (k84_1)) rfl (pw_at (by omega) (hsg84)) rfl (i) (by omega) (by omega) (by omega) dX2_init_87 (fun H locs hP hD hS => ?_)
        rw [pw_set] at hP hD
        obtain ⟨G_87, hg87⟩ : ∃ g : Nat → va_E, g = zu G (k + 29) (aR cF (6) (zu (fu) (i) (some (ad (k + 93 + 66 * i))))) := ⟨_, rfl⟩
        have hP : va_P D vwCl (pw (k + 98 + 66 * i) ad G_87) H := by rw [hg87]; exact hP
        have hD : va_D A (pw (k + 98 + 66 * i) ad G_87) := by rw [hg87]; exact hD
        have ho87 : ∀ i8 : Nat, i8 ≠ k + 29 → G_87 i8 = G i8 := fun i8 hk => by rw [hg87]; exact zu_n _ _ hk
        have he87 : G_87 (k + 29) = aR cF (6) (zu (fu) (i) (some (ad (k + 93 + 66 * i)))) := by rw [hg87]; exact zu_s _ _ _
        have k87_0 : G_87 (k) = .inr (2, [.ref (ad (k + 1)), .ref (ad (k + 28)), .ref (ad (k + 29)), .ref (ad (k + 30)), .null, .null, .null, .null, .null, .null, .ref (ad (k + 31)), .null, .int (iZ (0)), .int (iZ (0)), .int (iZ (0)), .int (iZ (0)), .int (iZ (0))]) := (ho87 (k) (by omega)).trans (k84_0)
        have k87_2 : G_87 (k + 30) = aI cI (6) (PR) := (ho87 (k + 30) (by omega)).trans (k84_2)
        have k87_3 : G_87 (k + 32 + 66 * i) = .inr (8, [.ref (ad (k + 32 + 66 * i + 1)), .ref (ad (k + 32 + 66 * i + 2)), .ref (ad (k + 32 + 66 * i + 59)), .int (iZ (rc67))]) := (ho87 (k + 32 + 66 * i) (by omega)).trans (k84_3)
        have k87_4 : G_87 (k + 28) = aR cR (6) (zu (fr) (i) (some (ad (k + 32 + 66 * i)))) := (ho87 (k + 28) (by omega)).trans (k84_4)
        have k87_5 : G_87 (k + 93 + 66 * i) = .inr (6, [.ref (ad (k + 93 + 66 * i + 1)), .ref (ad (k + 93 + 66 * i + 3)), .int (iZ (sg84))]) := (ho87 (k + 93 + 66 * i) (by omega)).trans (hsg84)
        have hlo : ∀ i : Nat, i < k → ad i = ad0 i ∧ G_87 i = G0 i := fun i hi => ⟨((show ad (i) = ad (i) ∧ G_87 (i) = G (i) from ⟨rfl, ho87 (i) (by omega)⟩)).1.trans (hlo i hi).1, ((show ad (i) = ad (i) ∧ G_87 (i) = G (i) from ⟨rfl, ho87 (i) (by omega)⟩)).2.trans (hlo i hi).2⟩
        have har : kAr cI ad G_87 (k + 1) := har.mv (fun i h1 h2 => ⟨rfl, ho87 i (by omega)⟩)
        have hta : kRf cE ad G_87 (k + 31) 7 0 (k + 428) 3 := hta.mv ((show ad (k + 31) = ad (k + 31) ∧ G_87 (k + 31) = G (k + 31) from ⟨rfl, ho87 (k + 31) (by omega)⟩)).2 (fun j9 h9 => absurd h9 (Nat.not_lt_zero j9))
        have hro : ∀ q9 : Nat, q9 < i → kRo cI cE cF ad G_87 (k + 32 + 66 * q9) ∧ pFh cI ad G_87 (k + 93 + 66 * q9) 46 := fun q9 h9 => ⟨(hro q9 h9).1.mv (fun i h1 h2 => ⟨rfl, ho87 i (by omega)⟩), (hro q9 h9).2.mv (fun i h1 h2 => ⟨rfl, ho87 i (by omega)⟩)⟩
        have pr67 : kRo cI cE cF ad G_87 (k + 32 + 66 * i) := pr67.mv (fun i h1 h2 => ⟨rfl, ho87 i (by omega)⟩)
        have pf84 : pFh cI ad G_87 (k + 93 + 66 * i) (46) := pf84.mv (fun i h1 h2 => ⟨rfl, ho87 i (by omega)⟩)
        refine lv_aload_n hx hb dX2_init_88 rfl (lv_at hl 1 rfl) ?_
        refine va_get (D := D) (ci := 2) (v := .ref (ad (k + 30))) (C := RX2) (T := TX2) (N := 17) hx hb hts hin2 hown hK hP (k) (pw_at (by omega) (k87_0)) rfl 3 (by decide) q_f_RX2_30_Elimination_pivotRows_I (fun _ h9 => h9) rfl dX2_init_89 ?_
        refine lv_iload_n hx hb dX2_init_92 rfl (lv_at hl 0 rfl) ?_
        refine lv_iconst (v := iZ (-1)) hx hb dX2_init_93 rfl ?_
        refine zr_iast hx hb hK hP hD hS (k + 30) 0 (pw_at (by omega) (k87_2)) rfl (i) (by omega) (by omega) (by omega) dX2_init_94 (fun H locs hP hD hS => ?_)
        rw [pw_set] at hP hD
        obtain ⟨G_94, hg94⟩ : ∃ g : Nat → va_E, g = zu G_87 (k + 30) (aI cI (6) (zu (PR) (i) ((-1)))) := ⟨_, rfl⟩
        have hP : va_P D vwCl (pw (k + 98 + 66 * i) ad G_94) H := by rw [hg94]; exact hP
        have hD : va_D A (pw (k + 98 + 66 * i) ad G_94) := by rw [hg94]; exact hD
        have ho94 : ∀ i8 : Nat, i8 ≠ k + 30 → G_94 i8 = G_87 i8 := fun i8 hk => by rw [hg94]; exact zu_n _ _ hk
        have he94 : G_94 (k + 30) = aI cI (6) (zu (PR) (i) ((-1))) := by rw [hg94]; exact zu_s _ _ _
        have k94_0 : G_94 (k) = .inr (2, [.ref (ad (k + 1)), .ref (ad (k + 28)), .ref (ad (k + 29)), .ref (ad (k + 30)), .null, .null, .null, .null, .null, .null, .ref (ad (k + 31)), .null, .int (iZ (0)), .int (iZ (0)), .int (iZ (0)), .int (iZ (0)), .int (iZ (0))]) := (ho94 (k) (by omega)).trans (k87_0)
        have k94_2 : G_94 (k + 32 + 66 * i) = .inr (8, [.ref (ad (k + 32 + 66 * i + 1)), .ref (ad (k + 32 + 66 * i + 2)), .ref (ad (k + 32 + 66 * i + 59)), .int (iZ (rc67))]) := (ho94 (k + 32 + 66 * i) (by omega)).trans (k87_3)
        have k94_3 : G_94 (k + 28) = aR cR (6) (zu (fr) (i) (some (ad (k + 32 + 66 * i)))) := (ho94 (k + 28) (by omega)).trans (k87_4)
        have k94_4 : G_94 (k + 93 + 66 * i) = .inr (6, [.ref (ad (k + 93 + 66 * i + 1)), .ref (ad (k + 93 + 66 * i + 3)), .int (iZ (sg84))]) := (ho94 (k + 93 + 66 * i) (by omega)).trans (k87_5)
        have k94_5 : G_94 (k + 29) = aR cF (6) (zu (fu) (i) (some (ad (k + 93 + 66 * i)))) := (ho94 (k + 29) (by omega)).trans (he87)
        have hlo : ∀ i : Nat, i < k → ad i = ad0 i ∧ G_94 i = G0 i := fun i hi => ⟨((show ad (i) = ad (i) ∧ G_94 (i) = G_87 (i) from ⟨rfl, ho94 (i) (by omega)⟩)).1.trans (hlo i hi).1, ((show ad (i) = ad (i) ∧ G_94 (i) = G_87 (i) from ⟨rfl, ho94 (i) (by omega)⟩)).2.trans (hlo i hi).2⟩
        have har : kAr cI ad G_94 (k + 1) := har.mv (fun i h1 h2 => ⟨rfl, ho94 i (by omega)⟩)
        have hta : kRf cE ad G_94 (k + 31) 7 0 (k + 428) 3 := hta.mv ((show ad (k + 31) = ad (k + 31) ∧ G_94 (k + 31) = G_87 (k + 31) from ⟨rfl, ho94 (k + 31) (by omega)⟩)).2 (fun j9 h9 => absurd h9 (Nat.not_lt_zero j9))
        have hro : ∀ q9 : Nat, q9 < i → kRo cI cE cF ad G_94 (k + 32 + 66 * q9) ∧ pFh cI ad G_94 (k + 93 + 66 * q9) 46 := fun q9 h9 => ⟨(hro q9 h9).1.mv (fun i h1 h2 => ⟨rfl, ho94 i (by omega)⟩), (hro q9 h9).2.mv (fun i h1 h2 => ⟨rfl, ho94 i (by omega)⟩)⟩
        have pr67 : kRo cI cE cF ad G_94 (k + 32 + 66 * i) := pr67.mv (fun i h1 h2 => ⟨rfl, ho94 i (by omega)⟩)
        have pf84 : pFh cI ad G_94 (k + 93 + 66 * i) (46) := pf84.mv (fun i h1 h2 => ⟨rfl, ho94 i (by omega)⟩)
        refine lv_iinc (v := iZ (((i + 1 : Nat) : Int))) (lv' := [(1, .int (iZ (((i + 1 : Nat) : Int)))), (0, .ref (ad (k)))]) hx hb dX2_init_95 hl (k := 0) rfl (by rw [show ((i + 1 : Nat) : Int) = ((i : Nat) : Int) + 1 by omega]; exact iZ_add _ _) (by decide) rfl (fun ls hl => ?_)
        refine lv_goto (tgt := 52) hx hb dX2_init_98 (by decide) ?_
        refine zk_cs (c' := 31 + 66 * (i + 1)) (s' := 1317 + 1684 * (i + 1)) (by omega) (by omega) ?_
        exact ih1 (i + 1) ad G_94 H locs ls (by omega) k94_0 har ⟨_, k94_3, fun j9 h9 => by
            by_cases q9 : j9 = i
            · rw [q9]; exact zu_s _ _ _
            · rw [zu_n _ _ q9]; exact hfr j9 (by omega)⟩ ⟨_, k94_5, fun j9 h9 => by
            by_cases q9 : j9 = i
            · rw [q9]; exact zu_s _ _ _
            · rw [zu_n _ _ q9]; exact hfu j9 (by omega)⟩ ⟨_, he94⟩ hta (fun j9 h9 => by
            by_cases q9 : j9 = i
            · rw [q9]; exact ⟨pr67, pf84⟩
            · exact hro j9 (by omega)) hlo hak (by rw [show k + 32 + 66 * (i + 1) = k + 98 + 66 * i by omega]; exact hP) (by rw [show k + 32 + 66 * (i + 1) = k + 98 + 66 * i by omega]; exact hD) hS hl
  refine lv_aload_n hx hb dX2_init_0 rfl (lv_at hl 0 rfl) ?_
  refine zk_obj hx hb hown q_methodLink_RX2_3_objectInit q_instanceMethod_objectInit q_code_objectInit_0xb1_1_none (hl.1.trans hml.symm) dX2_init_1 (Nat.le_of_ble_eq_true rfl) (Nat.le_of_ble_eq_true rfl) ?_
  refine lv_aload_n hx hb dX2_init_4 rfl (lv_at hl 0 rfl) ?_
  refine zk_new (D := D) (C := RX0) (T := TX0) (N := 9) (ci := 0) hx hb hts hin0 tyX0 tyX0_ok hown q_classLink_RX2_9_RX0 q_instantiable_RX0_9 q_initialized_RX0 hK hP hD hS hA rfl [.null, .null, .null, .null, .null, .null, .null, .null, .null] (hfX0) (by show _ ≤ 467; omega) (by show _ ≤ 12268; omega) dX2_init_5 (fun ad G H ha5 hn5 hP hD hS => ?_)
  have hl : lv_has ls 2 [(0, .ref (ad (k)))] := by rw [(ha5 (k) (by omega)).1]; exact hl
  refine zk_st [.ref (ad (k + 1)), .ref (ad (k))] (by rw [(ha5 (k) (by omega)).1]) ?_
  have k5_0 : G (k) = .inr (2, [.null, .null, .null, .null, .null, .null, .null, .null, .null, .null, .null, .null, .int (iZ (0)), .int (iZ (0)), .int (iZ (0)), .int (iZ (0)), .int (iZ (0))]) := by rw [(ha5 (k) (by omega)).2, hk0]
  have hlo : ∀ i : Nat, i < k → ad i = ad0 i ∧ G i = G0 i := fun i hi => ⟨((ha5 (i) (by omega))).1.trans (hlo i hi).1, ((ha5 (i) (by omega))).2.trans (hlo i hi).2⟩
  have hak : ad k = ad0 k := ((ha5 (k) (by omega))).1.trans hak
  have hP : va_P D vwCl (pw (k + 2) ad G) H := by rw [show k + 2 = k + 1 + 1 by omega]; exact hP
  have hD : va_D A (pw (k + 2) ad G) := by rw [show k + 2 = k + 1 + 1 by omega]; exact hD
  refine lv_dup hx hb dX2_init_8 rfl ?_
  refine zc_Kv (As := []) (rest := [.ref (ad (k + 1)), .ref (ad (k))]) ⟨hx, hb, hml, hown, hts⟩ (k_ar l D cI cJ cE cF cR (_) (k + 1) ad G (by omega) (hn5)) (cwI 0 hts gX2_init_X0_init rfl rfl rfl q_initialized_RX0 q_methodLink_RX2_11_yX0_init q_instanceMethod_yX0_init rfl (by decide +kernel) ⟨Nat.le_of_ble_eq_true rfl, Nat.le_of_ble_eq_true rfl⟩) hN hAO hK hP hD hS hA rfl hl.1 (Nat.le_of_ble_eq_true rfl) dX2_init_9 ⟨by show _ ≤ 467; omega, by show _ ≤ 12268; omega⟩ (fun ad G H locs ha9 hao9 px9 hP hD hS => ?_)
  have hl : lv_has ls 2 [(0, .ref (ad (k)))] := by rw [(ha9 (k) (by omega)).1]; exact hl
  refine zk_st [.ref (ad (k + 1)), .ref (ad (k))] (by rw [(ha9 (k) (by omega)).1, hao9]) ?_
  have k9_0 : G (k) = .inr (2, [.null, .null, .null, .null, .null, .null, .null, .null, .null, .null, .null, .null, .int (iZ (0)), .int (iZ (0)), .int (iZ (0)), .int (iZ (0)), .int (iZ (0))]) := by rw [(ha9 (k) (by omega)).2, k5_0]
  have hlo : ∀ i : Nat, i < k → ad i = ad0 i ∧ G i = G0 i := fun i hi => ⟨((ha9 (i) (by omega))).1.trans (hlo i hi).1, ((ha9 (i) (by omega))).2.trans (hlo i hi).2⟩
  have hak : ad k = ad0 k := ((ha9 (k) (by omega))).1.trans hak
  have hP : va_P D vwCl (pw (k + 28) ad G) H := by rw [show k + 28 = k + 1 + 27 by omega]; exact hP
  have hD : va_D A (pw (k + 28) ad G) := by rw [show k + 28 = k + 1 + 27 by omega]; exact hD
  have px9 : kAr cI ad G (k + 1) := px9
  refine va_putF (D := D) (ci := 2) (v := .ref (ad (k + 1))) (ty := tyX2 0) (C := RX2) (T := TX2) (N := 17) hx hb hts hin2 tyX2 tyX2_ok nmX2 hown hK hP hD hS (k) (pw_at (by omega) (k9_0)) rfl 0 (by decide) q_f_RX2_12_Elimination_arithmetic_LArithmetic (fun _ h9 => h9) rfl hnm rfl (tyX2_ok 0 (by decide)) rfl rfl (Nat.le_of_ble_eq_true rfl) dX2_init_12 (fun H locs hP hD hS => ?_)
  rw [pw_set] at hP hD
  obtain ⟨G_12, hg12⟩ : ∃ g : Nat → va_E, g = zu G (k) (.inr (2, [.ref (ad (k + 1)), .null, .null, .null, .null, .null, .null, .null, .null, .null, .null, .null, .int (iZ (0)), .int (iZ (0)), .int (iZ (0)), .int (iZ (0)), .int (iZ (0))])) := ⟨_, rfl⟩
  have hP : va_P D vwCl (pw (k + 28) ad G_12) H := by rw [hg12]; exact hP
  have hD : va_D A (pw (k + 28) ad G_12) := by rw [hg12]; exact hD
  have ho12 : ∀ i8 : Nat, i8 ≠ k → G_12 i8 = G i8 := fun i8 hk => by rw [hg12]; exact zu_n _ _ hk
  have he12 : G_12 (k) = .inr (2, [.ref (ad (k + 1)), .null, .null, .null, .null, .null, .null, .null, .null, .null, .null, .null, .int (iZ (0)), .int (iZ (0)), .int (iZ (0)), .int (iZ (0)), .int (iZ (0))]) := by rw [hg12]; exact zu_s _ _ _
  have hlo : ∀ i : Nat, i < k → ad i = ad0 i ∧ G_12 i = G0 i := fun i hi => ⟨((show ad (i) = ad (i) ∧ G_12 (i) = G (i) from ⟨rfl, ho12 (i) (by omega)⟩)).1.trans (hlo i hi).1, ((show ad (i) = ad (i) ∧ G_12 (i) = G (i) from ⟨rfl, ho12 (i) (by omega)⟩)).2.trans (hlo i hi).2⟩
  have px9 : kAr cI ad G_12 (k + 1) := px9.mv (fun i h1 h2 => ⟨rfl, ho12 i (by omega)⟩)
  refine lv_aload_n hx hb dX2_init_15 rfl (lv_at hl 0 rfl) ?_
  refine lv_bipush (v := iZ 6) hx hb dX2_init_16 (by decide) ?_
  refine zk_newR (C := RX8) hx hb hown q_classLink_RX2_18_RX8 hAO.2.2 hK 4 rfl hP hD hS hA (6) (rfl) (by decide) (by show _ ≤ 467; omega) (by show _ ≤ 12268; omega) dX2_init_18 (fun ad G H ha18 hn18 hP hD hS => ?_)
  have hl : lv_has ls 2 [(0, .ref (ad (k)))] := by rw [(ha18 (k) (by omega)).1]; exact hl
  refine zk_st [.ref (ad (k + 28)), .ref (ad (k))] (by rw [(ha18 (k) (by omega)).1]) ?_
  have k18_0 : G (k) = .inr (2, [.ref (ad (k + 1)), .null, .null, .null, .null, .null, .null, .null, .null, .null, .null, .null, .int (iZ (0)), .int (iZ (0)), .int (iZ (0)), .int (iZ (0)), .int (iZ (0))]) := by rw [(ha18 (k) (by omega)).2, he12, (ha18 (k + 1) (by omega)).1]
  have hlo : ∀ i : Nat, i < k → ad i = ad0 i ∧ G i = G0 i := fun i hi => ⟨((ha18 (i) (by omega))).1.trans (hlo i hi).1, ((ha18 (i) (by omega))).2.trans (hlo i hi).2⟩
  have hak : ad k = ad0 k := ((ha18 (k) (by omega))).1.trans hak
  have px9 : kAr cI ad G (k + 1) := px9.mv (fun i h1 h2 => ha18 i (by omega))
  have hP : va_P D vwCl (pw (k + 29) ad G) H := by rw [show k + 29 = k + 28 + 1 by omega]; exact hP
  have hD : va_D A (pw (k + 29) ad G) := by rw [show k + 29 = k + 28 + 1 by omega]; exact hD
  refine va_putF (D := D) (ci := 2) (v := .ref (ad (k + 28))) (ty := tyX2 1) (C := RX2) (T := TX2) (N := 17) hx hb hts hin2 tyX2 tyX2_ok nmX2 hown hK hP hD hS (k) (pw_at (by omega) (k18_0)) rfl 1 (by decide) q_f_RX2_20_Elimination_rows_LRow (fun _ h9 => h9) rfl hnm rfl (tyX2_ok 1 (by decide)) rfl rfl (Nat.le_of_ble_eq_true rfl) dX2_init_21 (fun H locs hP hD hS => ?_)
  rw [pw_set] at hP hD
  obtain ⟨G_21, hg21⟩ : ∃ g : Nat → va_E, g = zu G (k) (.inr (2, [.ref (ad (k + 1)), .ref (ad (k + 28)), .null, .null, .null, .null, .null, .null, .null, .null, .null, .null, .int (iZ (0)), .int (iZ (0)), .int (iZ (0)), .int (iZ (0)), .int (iZ (0))])) := ⟨_, rfl⟩
  have hP : va_P D vwCl (pw (k + 29) ad G_21) H := by rw [hg21]; exact hP
  have hD : va_D A (pw (k + 29) ad G_21) := by rw [hg21]; exact hD
  have ho21 : ∀ i8 : Nat, i8 ≠ k → G_21 i8 = G i8 := fun i8 hk => by rw [hg21]; exact zu_n _ _ hk
  have he21 : G_21 (k) = .inr (2, [.ref (ad (k + 1)), .ref (ad (k + 28)), .null, .null, .null, .null, .null, .null, .null, .null, .null, .null, .int (iZ (0)), .int (iZ (0)), .int (iZ (0)), .int (iZ (0)), .int (iZ (0))]) := by rw [hg21]; exact zu_s _ _ _
  have k21_1 : G_21 (k + 28) = aR cR (6) (fun _ => none) := (ho21 (k + 28) (by omega)).trans (hn18)
  have hlo : ∀ i : Nat, i < k → ad i = ad0 i ∧ G_21 i = G0 i := fun i hi => ⟨((show ad (i) = ad (i) ∧ G_21 (i) = G (i) from ⟨rfl, ho21 (i) (by omega)⟩)).1.trans (hlo i hi).1, ((show ad (i) = ad (i) ∧ G_21 (i) = G (i) from ⟨rfl, ho21 (i) (by omega)⟩)).2.trans (hlo i hi).2⟩
  have px9 : kAr cI ad G_21 (k + 1) := px9.mv (fun i h1 h2 => ⟨rfl, ho21 i (by omega)⟩)
  refine lv_aload_n hx hb dX2_init_24 rfl (lv_at hl 0 rfl) ?_
  refine lv_bipush (v := iZ 6) hx hb dX2_init_25 (by decide) ?_
  refine zk_newR (C := RX6) hx hb hown q_classLink_RX2_24_RX6 hAO.2.1 hK 3 rfl hP hD hS hA (6) (rfl) (by decide) (by show _ ≤ 467; omega) (by show _ ≤ 12268; omega) dX2_init_27 (fun ad G H ha27 hn27 hP hD hS => ?_)
  have hl : lv_has ls 2 [(0, .ref (ad (k)))] := by rw [(ha27 (k) (by omega)).1]; exact hl
  refine zk_st [.ref (ad (k + 29)), .ref (ad (k))] (by rw [(ha27 (k) (by omega)).1]) ?_
  have k27_0 : G (k + 28) = aR cR (6) (fun _ => none) := by rw [(ha27 (k + 28) (by omega)).2, k21_1]
  have k27_1 : G (k) = .inr (2, [.ref (ad (k + 1)), .ref (ad (k + 28)), .null, .null, .null, .null, .null, .null, .null, .null, .null, .null, .int (iZ (0)), .int (iZ (0)), .int (iZ (0)), .int (iZ (0)), .int (iZ (0))]) := by rw [(ha27 (k) (by omega)).2, he21, (ha27 (k + 1) (by omega)).1, (ha27 (k + 28) (by omega)).1]
  have hlo : ∀ i : Nat, i < k → ad i = ad0 i ∧ G i = G0 i := fun i hi => ⟨((ha27 (i) (by omega))).1.trans (hlo i hi).1, ((ha27 (i) (by omega))).2.trans (hlo i hi).2⟩
  have hak : ad k = ad0 k := ((ha27 (k) (by omega))).1.trans hak
  have px9 : kAr cI ad G (k + 1) := px9.mv (fun i h1 h2 => ha27 i (by omega))
  have hP : va_P D vwCl (pw (k + 30) ad G) H := by rw [show k + 30 = k + 29 + 1 by omega]; exact hP
  have hD : va_D A (pw (k + 30) ad G) := by rw [show k + 30 = k + 29 + 1 by omega]; exact hD
  refine va_putF (D := D) (ci := 2) (v := .ref (ad (k + 29))) (ty := tyX2 2) (C := RX2) (T := TX2) (N := 17) hx hb hts hin2 tyX2 tyX2_ok nmX2 hown hK hP hD hS (k) (pw_at (by omega) (k27_1)) rfl 2 (by decide) q_f_RX2_26_Elimination_unknowns_LFraction (fun _ h9 => h9) rfl hnm rfl (tyX2_ok 2 (by decide)) rfl rfl (Nat.le_of_ble_eq_true rfl) dX2_init_30 (fun H locs hP hD hS => ?_)
  rw [pw_set] at hP hD
  obtain ⟨G_30, hg30⟩ : ∃ g : Nat → va_E, g = zu G (k) (.inr (2, [.ref (ad (k + 1)), .ref (ad (k + 28)), .ref (ad (k + 29)), .null, .null, .null, .null, .null, .null, .null, .null, .null, .int (iZ (0)), .int (iZ (0)), .int (iZ (0)), .int (iZ (0)), .int (iZ (0))])) := ⟨_, rfl⟩
  have hP : va_P D vwCl (pw (k + 30) ad G_30) H := by rw [hg30]; exact hP
  have hD : va_D A (pw (k + 30) ad G_30) := by rw [hg30]; exact hD
  have ho30 : ∀ i8 : Nat, i8 ≠ k → G_30 i8 = G i8 := fun i8 hk => by rw [hg30]; exact zu_n _ _ hk
  have he30 : G_30 (k) = .inr (2, [.ref (ad (k + 1)), .ref (ad (k + 28)), .ref (ad (k + 29)), .null, .null, .null, .null, .null, .null, .null, .null, .null, .int (iZ (0)), .int (iZ (0)), .int (iZ (0)), .int (iZ (0)), .int (iZ (0))]) := by rw [hg30]; exact zu_s _ _ _
  have k30_0 : G_30 (k + 28) = aR cR (6) (fun _ => none) := (ho30 (k + 28) (by omega)).trans (k27_0)
  have k30_2 : G_30 (k + 29) = aR cF (6) (fun _ => none) := (ho30 (k + 29) (by omega)).trans (hn27)
  have hlo : ∀ i : Nat, i < k → ad i = ad0 i ∧ G_30 i = G0 i := fun i hi => ⟨((show ad (i) = ad (i) ∧ G_30 (i) = G (i) from ⟨rfl, ho30 (i) (by omega)⟩)).1.trans (hlo i hi).1, ((show ad (i) = ad (i) ∧ G_30 (i) = G (i) from ⟨rfl, ho30 (i) (by omega)⟩)).2.trans (hlo i hi).2⟩
  have px9 : kAr cI ad G_30 (k + 1) := px9.mv (fun i h1 h2 => ⟨rfl, ho30 i (by omega)⟩)
  refine lv_aload_n hx hb dX2_init_33 rfl (lv_at hl 0 rfl) ?_
  refine lv_bipush (v := iZ 6) hx hb dX2_init_34 (by decide) ?_
  refine zk_newI hx hb q_arrayClass_int hK 0 rfl hP hD hS hA (6) (rfl) (by decide) (by show _ ≤ 467; omega) (by show _ ≤ 12268; omega) dX2_init_36 (fun ad G H ha36 hn36 hP hD hS => ?_)
  have hl : lv_has ls 2 [(0, .ref (ad (k)))] := by rw [(ha36 (k) (by omega)).1]; exact hl
  refine zk_st [.ref (ad (k + 30)), .ref (ad (k))] (by rw [(ha36 (k) (by omega)).1]) ?_
  have k36_0 : G (k + 28) = aR cR (6) (fun _ => none) := by rw [(ha36 (k + 28) (by omega)).2, k30_0]
  have k36_1 : G (k + 29) = aR cF (6) (fun _ => none) := by rw [(ha36 (k + 29) (by omega)).2, k30_2]
  have k36_2 : G (k) = .inr (2, [.ref (ad (k + 1)), .ref (ad (k + 28)), .ref (ad (k + 29)), .null, .null, .null, .null, .null, .null, .null, .null, .null, .int (iZ (0)), .int (iZ (0)), .int (iZ (0)), .int (iZ (0)), .int (iZ (0))]) := by rw [(ha36 (k) (by omega)).2, he30, (ha36 (k + 1) (by omega)).1, (ha36 (k + 28) (by omega)).1, (ha36 (k + 29) (by omega)).1]
  have hlo : ∀ i : Nat, i < k → ad i = ad0 i ∧ G i = G0 i := fun i hi => ⟨((ha36 (i) (by omega))).1.trans (hlo i hi).1, ((ha36 (i) (by omega))).2.trans (hlo i hi).2⟩
  have hak : ad k = ad0 k := ((ha36 (k) (by omega))).1.trans hak
  have px9 : kAr cI ad G (k + 1) := px9.mv (fun i h1 h2 => ha36 i (by omega))
  have hP : va_P D vwCl (pw (k + 31) ad G) H := by rw [show k + 31 = k + 30 + 1 by omega]; exact hP
  have hD : va_D A (pw (k + 31) ad G) := by rw [show k + 31 = k + 30 + 1 by omega]; exact hD
  refine va_putF (D := D) (ci := 2) (v := .ref (ad (k + 30))) (ty := tyX2 3) (C := RX2) (T := TX2) (N := 17) hx hb hts hin2 tyX2 tyX2_ok nmX2 hown hK hP hD hS (k) (pw_at (by omega) (k36_2)) rfl 3 (by decide) q_f_RX2_30_Elimination_pivotRows_I (fun _ h9 => h9) rfl hnm rfl (tyX2_ok 3 (by decide)) rfl rfl (Nat.le_of_ble_eq_true rfl) dX2_init_38 (fun H locs hP hD hS => ?_)
  rw [pw_set] at hP hD
  obtain ⟨G_38, hg38⟩ : ∃ g : Nat → va_E, g = zu G (k) (.inr (2, [.ref (ad (k + 1)), .ref (ad (k + 28)), .ref (ad (k + 29)), .ref (ad (k + 30)), .null, .null, .null, .null, .null, .null, .null, .null, .int (iZ (0)), .int (iZ (0)), .int (iZ (0)), .int (iZ (0)), .int (iZ (0))])) := ⟨_, rfl⟩
  have hP : va_P D vwCl (pw (k + 31) ad G_38) H := by rw [hg38]; exact hP
  have hD : va_D A (pw (k + 31) ad G_38) := by rw [hg38]; exact hD
  have ho38 : ∀ i8 : Nat, i8 ≠ k → G_38 i8 = G i8 := fun i8 hk => by rw [hg38]; exact zu_n _ _ hk
  have he38 : G_38 (k) = .inr (2, [.ref (ad (k + 1)), .ref (ad (k + 28)), .ref (ad (k + 29)), .ref (ad (k + 30)), .null, .null, .null, .null, .null, .null, .null, .null, .int (iZ (0)), .int (iZ (0)), .int (iZ (0)), .int (iZ (0)), .int (iZ (0))]) := by rw [hg38]; exact zu_s _ _ _
  have k38_0 : G_38 (k + 28) = aR cR (6) (fun _ => none) := (ho38 (k + 28) (by omega)).trans (k36_0)
  have k38_1 : G_38 (k + 29) = aR cF (6) (fun _ => none) := (ho38 (k + 29) (by omega)).trans (k36_1)
  have k38_3 : G_38 (k + 30) = aI cI (6) (fun _ => 0) := (ho38 (k + 30) (by omega)).trans (hn36)
  have hlo : ∀ i : Nat, i < k → ad i = ad0 i ∧ G_38 i = G0 i := fun i hi => ⟨((show ad (i) = ad (i) ∧ G_38 (i) = G (i) from ⟨rfl, ho38 (i) (by omega)⟩)).1.trans (hlo i hi).1, ((show ad (i) = ad (i) ∧ G_38 (i) = G (i) from ⟨rfl, ho38 (i) (by omega)⟩)).2.trans (hlo i hi).2⟩
  have px9 : kAr cI ad G_38 (k + 1) := px9.mv (fun i h1 h2 => ⟨rfl, ho38 i (by omega)⟩)
  refine lv_aload_n hx hb dX2_init_41 rfl (lv_at hl 0 rfl) ?_
  refine lv_bipush (v := iZ 7) hx hb dX2_init_42 (by decide) ?_
  refine zk_newR (C := RX3) hx hb hown q_classLink_RX2_34_RX3 hAO.1 hK 2 rfl hP hD hS hA (7) (rfl) (by decide) (by show _ ≤ 467; omega) (by show _ ≤ 12268; omega) dX2_init_44 (fun ad G H ha44 hn44 hP hD hS => ?_)
  have hl : lv_has ls 2 [(0, .ref (ad (k)))] := by rw [(ha44 (k) (by omega)).1]; exact hl
  refine zk_st [.ref (ad (k + 31)), .ref (ad (k))] (by rw [(ha44 (k) (by omega)).1]) ?_
  have k44_0 : G (k + 28) = aR cR (6) (fun _ => none) := by rw [(ha44 (k + 28) (by omega)).2, k38_0]
  have k44_1 : G (k + 29) = aR cF (6) (fun _ => none) := by rw [(ha44 (k + 29) (by omega)).2, k38_1]
  have k44_2 : G (k + 30) = aI cI (6) (fun _ => 0) := by rw [(ha44 (k + 30) (by omega)).2, k38_3]
  have k44_3 : G (k) = .inr (2, [.ref (ad (k + 1)), .ref (ad (k + 28)), .ref (ad (k + 29)), .ref (ad (k + 30)), .null, .null, .null, .null, .null, .null, .null, .null, .int (iZ (0)), .int (iZ (0)), .int (iZ (0)), .int (iZ (0)), .int (iZ (0))]) := by rw [(ha44 (k) (by omega)).2, he38, (ha44 (k + 1) (by omega)).1, (ha44 (k + 28) (by omega)).1, (ha44 (k + 29) (by omega)).1, (ha44 (k + 30) (by omega)).1]
  have hlo : ∀ i : Nat, i < k → ad i = ad0 i ∧ G i = G0 i := fun i hi => ⟨((ha44 (i) (by omega))).1.trans (hlo i hi).1, ((ha44 (i) (by omega))).2.trans (hlo i hi).2⟩
  have hak : ad k = ad0 k := ((ha44 (k) (by omega))).1.trans hak
  have px9 : kAr cI ad G (k + 1) := px9.mv (fun i h1 h2 => ha44 i (by omega))
  have hP : va_P D vwCl (pw (k + 32) ad G) H := by rw [show k + 32 = k + 31 + 1 by omega]; exact hP
  have hD : va_D A (pw (k + 32) ad G) := by rw [show k + 32 = k + 31 + 1 by omega]; exact hD
  refine va_putF (D := D) (ci := 2) (v := .ref (ad (k + 31))) (ty := tyX2 10) (C := RX2) (T := TX2) (N := 17) hx hb hts hin2 tyX2 tyX2_ok nmX2 hown hK hP hD hS (k) (pw_at (by omega) (k44_3)) rfl 10 (by decide) q_f_RX2_36_Elimination_asTold_LEntry (fun _ h9 => h9) rfl hnm rfl (tyX2_ok 10 (by decide)) rfl rfl (Nat.le_of_ble_eq_true rfl) dX2_init_47 (fun H locs hP hD hS => ?_)
  rw [pw_set] at hP hD
  obtain ⟨G_47, hg47⟩ : ∃ g : Nat → va_E, g = zu G (k) (.inr (2, [.ref (ad (k + 1)), .ref (ad (k + 28)), .ref (ad (k + 29)), .ref (ad (k + 30)), .null, .null, .null, .null, .null, .null, .ref (ad (k + 31)), .null, .int (iZ (0)), .int (iZ (0)), .int (iZ (0)), .int (iZ (0)), .int (iZ (0))])) := ⟨_, rfl⟩
  have hP : va_P D vwCl (pw (k + 32) ad G_47) H := by rw [hg47]; exact hP
  have hD : va_D A (pw (k + 32) ad G_47) := by rw [hg47]; exact hD
  have ho47 : ∀ i8 : Nat, i8 ≠ k → G_47 i8 = G i8 := fun i8 hk => by rw [hg47]; exact zu_n _ _ hk
  have he47 : G_47 (k) = .inr (2, [.ref (ad (k + 1)), .ref (ad (k + 28)), .ref (ad (k + 29)), .ref (ad (k + 30)), .null, .null, .null, .null, .null, .null, .ref (ad (k + 31)), .null, .int (iZ (0)), .int (iZ (0)), .int (iZ (0)), .int (iZ (0)), .int (iZ (0))]) := by rw [hg47]; exact zu_s _ _ _
  have k47_0 : G_47 (k + 28) = aR cR (6) (fun _ => none) := (ho47 (k + 28) (by omega)).trans (k44_0)
  have k47_1 : G_47 (k + 29) = aR cF (6) (fun _ => none) := (ho47 (k + 29) (by omega)).trans (k44_1)
  have k47_2 : G_47 (k + 30) = aI cI (6) (fun _ => 0) := (ho47 (k + 30) (by omega)).trans (k44_2)
  have k47_4 : G_47 (k + 31) = aR cE (7) (fun _ => none) := (ho47 (k + 31) (by omega)).trans (hn44)
  have hlo : ∀ i : Nat, i < k → ad i = ad0 i ∧ G_47 i = G0 i := fun i hi => ⟨((show ad (i) = ad (i) ∧ G_47 (i) = G (i) from ⟨rfl, ho47 (i) (by omega)⟩)).1.trans (hlo i hi).1, ((show ad (i) = ad (i) ∧ G_47 (i) = G (i) from ⟨rfl, ho47 (i) (by omega)⟩)).2.trans (hlo i hi).2⟩
  have px9 : kAr cI ad G_47 (k + 1) := px9.mv (fun i h1 h2 => ⟨rfl, ho47 i (by omega)⟩)
  refine lv_iconst (v := iZ 0) hx hb dX2_init_50 rfl ?_
  refine lv_istore_n (lv' := [(1, .int (iZ (0))), (0, .ref (ad (k)))]) hx hb dX2_init_51 rfl hl (by decide) rfl (fun ls hl => ?_)
  refine zk_cs (c' := 31 + 66 * 0) (s' := 1317 + 1684 * 0) (by omega) (by omega) ?_
  exact hloop1 6 0 ad G_47 H locs ls rfl he47 px9 ⟨_, k47_0, fun j9 h9 => absurd h9 (Nat.not_lt_zero j9)⟩ ⟨_, k47_1, fun j9 h9 => absurd h9 (Nat.not_lt_zero j9)⟩ ⟨_, k47_2⟩ ⟨_, k47_4, fun j9 h9 => absurd h9 (Nat.not_lt_zero j9)⟩ (fun j9 h9 => absurd h9 (Nat.not_lt_zero j9)) hlo hak hP hD hS hl
