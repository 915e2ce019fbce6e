
/-- the arrays of the rows, by their places -/
def pSt (cE cF cR : ClassId) (ad : Nat → Nat) (G : Nat → va_E) (ρ : Nat → Nat) : Prop := G 33 = aR cR (6) (fun i => some (ad (37 + 66 * ρ i))) ∧ G 34 = aR cF (6) (fun i => some (ad (98 + 66 * i))) ∧ G 36 = aR cE (7) (fun j => some (ad (433 + 3 * j))) ∧ (∀ r : Nat, r < 6 → G (38 + 66 * r) = aR cE (7) (fun j => some (ad (40 + 66 * r + 8 * j))) ∧ G (39 + 66 * r) = aR cF (7) (fun j => some (ad (43 + 66 * r + 8 * j)))) ∧ (∀ i : Nat, i < 6 → ρ i < 6) ∧ ∀ i k : Nat, i < 6 → k < 6 → i ≠ k → ρ i ≠ ρ k
theorem pSt.keep {cE cF cR : ClassId} {ad : Nat → Nat} {G G' : Nat → va_E} {ρ : Nat → Nat} (h : pSt cE cF cR ad G ρ) (h1 : G' 33 = G 33) (h2 : G' 34 = G 34) (h3 : G' 36 = G 36) (h4 : ∀ r : Nat, r < 6 → G' (38 + 66 * r) = G (38 + 66 * r) ∧ G' (39 + 66 * r) = G (39 + 66 * r)) : pSt cE cF cR ad G' ρ := by
  obtain ⟨e1, e2, e3, e4, e5⟩ := h
  exact ⟨h1.trans e1, h2.trans e2, h3.trans e3, fun r hr => ⟨(h4 r hr).1.trans (e4 r hr).1, (h4 r hr).2.trans (e4 r hr).2⟩, e5⟩
theorem pe_svk_0 {M : Nat → Nat → Rat} {n r k : Nat} (h : M (r + k) n ≠ 0) : ∀ K : Nat, k < K → pe_svk M n r K = 0 := by
  intro K
  induction K with
  | zero => intro q; omega
  | succ K ih =>
    intro q
    show (if M (r + K) n = 0 then pe_svk M n r K else 0) = 0
    by_cases w : K = k
    · rw [w, if_neg h]
    · split
      · exact ih (by omega)
      · rfl
set_option maxHeartbeats 4000000 in
set_option maxRecDepth 100000 in
/-- Elimination.firstRowWith -/
theorem p_firstRowWith (l : Launch) (D : va_G) (cI cJ cE cF cR : ClassId) (NP : Nat) (ad : Nat → Nat) (G : Nat → va_E) (c9 : Nat) (E : Nat → Nat → Int) (L9 n r : Nat) (tn ml sv : Int) (hel : G 5 = .inr (2, [.ref (ad 6), .ref (ad 33), .ref (ad 34), .ref (ad 35), .ref (ad 454), .ref (ad 459), .ref (ad 464), .ref (ad 466), .ref (ad 468), .ref (ad 470), .ref (ad 36), .ref (ad L9), .int (iZ (((n : Nat) : Int))), .int (iZ (tn)), .int (iZ (((r : Nat) : Int))), .int (iZ (ml)), .int (iZ (sv))])) (ρ : Nat → Nat) (pcf : Nat → Int) (hst : pSt cE cF cR ad G ρ) (hrow : ∀ i9 : Nat, i9 < n → G (37 + 66 * ρ i9) = .inr (8, [.ref (ad (38 + 66 * ρ i9)), .ref (ad (39 + 66 * ρ i9)), .ref (ad (96 + 66 * ρ i9)), .int (iZ (pcf i9))])) (hE : ∀ i9 : Nat, r ≤ i9 → i9 < n → pEn cI ad G (40 + 66 * ρ i9 + 8 * c9) 46 (E i9 c9)) (hn6 : n ≤ 6) (hrn : r ≤ n) (hc6 : c9 < 7) (hNP : 480 ≤ NP) : Ci l D (zty cI cJ cE cF cR) yX2_firstRowWith wsX2_firstRowWith (zRm 0 0) 0 0 [.ref (ad 5), .int (iZ (((c9 : Nat) : Int)))] (pw NP ad G) (fun z9 w1 => ∃ G1 : Nat → va_E, w1 = pw NP ad G1 ∧ ((pm_find E c9 r (n - r) < n ∧ z9 = ((pm_find E c9 r (n - r) : Nat) : Int)) ∨ (¬ pm_find E c9 r (n - r) < n ∧ z9 = -1)) ∧ ∀ i9 : Nat, G1 i9 = G i9) := by
  unfold Ci
  refine zs (Qc := zQi D _ _) (cc := cX2_firstRowWith) (maxL := 3) (ret := (some .int)) (by decide) rfl (Nat.le_of_ble_eq_true rfl) ?_
  intro zp ze s zm below meth zc ls A args Q hQ hx hb hr hts hown hlk hml hnm hN hA hK hP hD hS hl
  have q_f_RX2_85_Elimination_n_I := hts (.fieldLink RX2 85 "LimbSolver$Elimination" "n" "I") (by decide +kernel)
  have hin2 : ∀ w ∈ wsX20, w ∈ wsX2_firstRowWith := by decide +kernel
  have q_f_RX2_20_Elimination_rows_LRow := hts (.fieldLink RX2 20 "LimbSolver$Elimination" "rows" "[LLimbSolver$Row;") (by decide +kernel)
  have hin8 : ∀ w ∈ wsX80, w ∈ wsX2_firstRowWith := by decide +kernel
  have hin3 : ∀ w ∈ wsX30, w ∈ wsX2_firstRowWith := by decide +kernel
  have q_f_RX2_91_Elimination_pivots_I := hts (.fieldLink RX2 91 "LimbSolver$Elimination" "pivots" "I") (by decide +kernel)
  have hl : lv_has ls 3 [(0, .ref (ad 5)), (1, .int (iZ (((c9 : Nat) : Int))))] := hl
  have lp : ∀ (t : Nat) (i : Nat) (H : Heap) (locs : List Loc) (ls : Array Slot), (i + t = n) → (r ≤ i) → (pm_find E c9 i t = pm_find E c9 r (n - r)) →  va_P D vwCl (pw NP ad G) H → va_D A (pw NP ad G) → va_S A s.heap H locs → lv_has ls 3 [(2, .int (iZ (((i : Nat) : Int)))), (0, .ref (ad 5)), (1, .int (iZ (((c9 : Nat) : Int))))] → W zp l ze (zRm 0 0) s zm args below meth zc H locs 0 0 Q (F0 zm 5 ls []) := by
    intro t
    induction t with
    | zero =>
      intro i H locs ls hit hri hfd hP hD hS hl
      refine lv_iload_n hx hb dX2_firstRowWith_5 rfl (lv_at hl 0 rfl) ?_
      refine lv_aload_n hx hb dX2_firstRowWith_6 rfl (lv_at hl 1 rfl) ?_
      refine va_get (D := D) (ci := 2) (v := .int (iZ (((n : Nat) : Int)))) (C := RX2) (T := TX2) (N := 17) hx hb hts hin2 hown hK hP (5) (pw_at (by omega) (hel)) rfl 12 (by decide) q_f_RX2_85_Elimination_n_I (fun _ h9 => h9) rfl dX2_firstRowWith_7 ?_
      refine zr_icmp_ge hx hb 38 ⟨by omega, by omega⟩ ⟨by omega, by omega⟩ dX2_firstRowWith_10 (by decide) (fun h_10 => ?_) (fun h_10 => ?_)
      · refine lv_iconst (v := iZ (-1)) hx hb dX2_firstRowWith_38 rfl ?_
        exact zr_iret hQ hx hb hr hlk dX2_firstRowWith_39 hK hP hD hS (by omega) (by omega) (by decide) (⟨G, rfl, Or.inr ⟨by rw [← hfd]; show ¬ i < n; omega, rfl⟩, fun _ => rfl⟩)
      · exfalso; omega
    | succ t ih =>
      intro i H locs ls hit hri hfd hP hD hS hl
      refine lv_iload_n hx hb dX2_firstRowWith_5 rfl (lv_at hl 0 rfl) ?_
      refine lv_aload_n hx hb dX2_firstRowWith_6 rfl (lv_at hl 1 rfl) ?_
      refine va_get (D := D) (ci := 2) (v := .int (iZ (((n : Nat) : Int)))) (C := RX2) (T := TX2) (N := 17) hx hb hts hin2 hown hK hP (5) (pw_at (by omega) (hel)) rfl 12 (by decide) q_f_RX2_85_Elimination_n_I (fun _ h9 => h9) rfl dX2_firstRowWith_7 ?_
      refine zr_icmp_ge hx hb 38 ⟨by omega, by omega⟩ ⟨by omega, by omega⟩ dX2_firstRowWith_10 (by decide) (fun h_10 => ?_) (fun h_10 => ?_)
      · exfalso; omega
      · have hρ_i := hst.2.2.2.2.1 i (by omega)
        refine lv_aload_n hx hb dX2_firstRowWith_13 rfl (lv_at hl 1 rfl) ?_
        refine va_get (D := D) (ci := 2) (v := .ref (ad 33)) (C := RX2) (T := TX2) (N := 17) hx hb hts hin2 hown hK hP (5) (pw_at (by omega) (hel)) rfl 1 (by decide) q_f_RX2_20_Elimination_rows_LRow (fun _ h9 => h9) rfl dX2_firstRowWith_14 ?_
        refine lv_iload_n hx hb dX2_firstRowWith_17 rfl (lv_at hl 0 rfl) ?_
        refine zr_aald hx hb hK hP (33) 4 (pw_at (by omega) (hst.1)) rfl (i) (by omega) (by omega) (by omega) (v := ad (37 + 66 * ρ i)) (rfl) dX2_firstRowWith_18 ?_
        refine va_getN (D := D) (ci := 8) (v := .ref (ad (38 + 66 * ρ i))) (C := RX8) (T := TX8) (N := 4) hx hb hts hin8 hown hK hP (37 + 66 * ρ i) (pw_at (by omega) (hrow i (by omega))) rfl 0 (by decide) (hN.F 16 rfl) (fun _ h9 => h9) rfl dX2_firstRowWith_19 ?_
        refine lv_iload_n hx hb dX2_firstRowWith_22 rfl (lv_at hl 2 rfl) ?_
        refine zr_aald hx hb hK hP (38 + 66 * ρ i) 2 (pw_at (by omega) ((hst.2.2.2.1 (ρ i) (hst.2.2.2.2.1 i (by omega))).1)) rfl (c9) (by omega) (by omega) (by omega) (v := ad (40 + 66 * ρ i + 8 * c9)) (rfl) dX2_firstRowWith_23 ?_
        refine va_getN (D := D) (ci := 3) (v := .int (iZ ((E i c9).sign))) (C := RX3) (T := TX3) (N := 2) hx hb hts hin3 hown hK hP (40 + 66 * ρ i + 8 * c9) (pw_at (by omega) ((hE i (by omega) (by omega)).1)) rfl 1 (by decide) (hN.F 11 rfl) (fun _ h9 => h9) rfl dX2_firstRowWith_24 ?_
        refine zr_if_eq hx hb 32 (sg_r _) dX2_firstRowWith_27 (by decide) (fun h_27 => ?_) (fun h_27 => ?_)
        · refine lv_iinc (v := iZ (((i + 1 : Nat) : Int))) (lv' := [(2, .int (iZ (((i + 1 : Nat) : Int)))), (0, .ref (ad 5)), (1, .int (iZ (((c9 : Nat) : Int))))]) hx hb dX2_firstRowWith_32 hl (k := 0) rfl (by rw [show ((i + 1 : Nat) : Int) = ((i : Nat) : Int) + 1 by omega]; exact iZ_add _ _) (by decide) rfl (fun ls hl => ?_)
          refine lv_goto (tgt := 5) hx hb dX2_firstRowWith_35 (by decide) ?_
          exact ih (i + 1) H locs ls (by omega) (by omega) (by rw [← hfd]; exact (if_pos (pr_s0 h_27)).symm) hP hD hS (lv_sub hl [0, 1, 2] rfl)
        · refine lv_iload_n hx hb dX2_firstRowWith_30 rfl (lv_at hl 0 rfl) ?_
          exact zr_iret hQ hx hb hr hlk dX2_firstRowWith_31 hK hP hD hS (by omega) (by omega) ⟨by omega, by omega⟩ (⟨G, rfl, Or.inl ⟨by rw [← hfd]; show (if E i c9 = 0 then _ else i) < n; rw [if_neg (fun q => h_27 (by rw [q]; rfl))]; omega, by rw [← hfd]; show _ = (((if E i c9 = 0 then _ else i) : Nat) : Int); rw [if_neg (fun q => h_27 (by rw [q]; rfl))]⟩, fun _ => rfl⟩)
  refine lv_aload_n hx hb dX2_firstRowWith_0 rfl (lv_at hl 0 rfl) ?_
  refine va_get (D := D) (ci := 2) (v := .int (iZ (((r : Nat) : Int)))) (C := RX2) (T := TX2) (N := 17) hx hb hts hin2 hown hK hP (5) (pw_at (by omega) (hel)) rfl 14 (by decide) q_f_RX2_91_Elimination_pivots_I (fun _ h9 => h9) rfl dX2_firstRowWith_1 ?_
  refine lv_istore_n (lv' := [(2, .int (iZ (((r : Nat) : Int)))), (0, .ref (ad 5)), (1, .int (iZ (((c9 : Nat) : Int))))]) hx hb dX2_firstRowWith_4 rfl hl (by decide) rfl (fun ls hl => ?_)
  exact lp (n - r) r s.heap [] ls (by omega) (Nat.le_refl _) rfl hP hD hS (lv_sub hl [0, 1, 2] rfl)

set_option maxHeartbeats 4000000 in
set_option maxRecDepth 100000 in
/-- Elimination.hasNoRightSidesLeft -/
theorem p_hasNoRight (l : Launch) (D : va_G) (cI cJ cE cF cR : ClassId) (NP : Nat) (ad : Nat → Nat) (G : Nat → va_E) (E : Nat → Nat → Int) (M : Nat → Nat → Rat) (L9 n r : Nat) (tn ml sv : Int) (hel : G 5 = .inr (2, [.ref (ad 6), .ref (ad 33), .ref (ad 34), .ref (ad 35), .ref (ad 454), .ref (ad 459), .ref (ad 464), .ref (ad 466), .ref (ad 468), .ref (ad 470), .ref (ad 36), .ref (ad L9), .int (iZ (((n : Nat) : Int))), .int (iZ (tn)), .int (iZ (((r : Nat) : Int))), .int (iZ (ml)), .int (iZ (sv))])) (ρ : Nat → Nat) (pcf : Nat → Int) (hst : pSt cE cF cR ad G ρ) (hrow : ∀ i9 : Nat, i9 < n → G (37 + 66 * ρ i9) = .inr (8, [.ref (ad (38 + 66 * ρ i9)), .ref (ad (39 + 66 * ρ i9)), .ref (ad (96 + 66 * ρ i9)), .int (iZ (pcf i9))])) (hE : ∀ i9 : Nat, r ≤ i9 → i9 < n → pEn cI ad G (40 + 66 * ρ i9 + 8 * n) 46 (E i9 n)) (hEM : ∀ i9 : Nat, r ≤ i9 → i9 < n → (E i9 n = 0 ↔ M i9 n = 0)) (hn6 : n ≤ 6) (hrn : r ≤ n) (hNP : 480 ≤ NP) : Ci l D (zty cI cJ cE cF cR) yX2_hasNoRightSidesLeft wsX2_hasNoRightSidesLeft (zRm 0 0) 0 0 [.ref (ad 5)] (pw NP ad G) (fun z9 w1 => ∃ G1 : Nat → va_E, w1 = pw NP ad G1 ∧ z9 = pe_svk M n r (n - r) ∧ ∀ i9 : Nat, G1 i9 = G i9) := by
  unfold Ci
  refine zs (Qc := zQi D _ _) (cc := cX2_hasNoRightSidesLeft) (maxL := 2) (ret := (some .boolean)) (by decide) rfl (Nat.le_of_ble_eq_true rfl) ?_
  intro zp ze s zm below meth zc ls A args Q hQ hx hb hr hts hown hlk hml hnm hN hA hK hP hD hS hl
  have q_f_RX2_85_Elimination_n_I := hts (.fieldLink RX2 85 "LimbSolver$Elimination" "n" "I") (by decide +kernel)
  have hin2 : ∀ w ∈ wsX20, w ∈ wsX2_hasNoRightSidesLeft := by decide +kernel
  have q_f_RX2_20_Elimination_rows_LRow := hts (.fieldLink RX2 20 "LimbSolver$Elimination" "rows" "[LLimbSolver$Row;") (by decide +kernel)
  have hin8 : ∀ w ∈ wsX80, w ∈ wsX2_hasNoRightSidesLeft := by decide +kernel
  have hin3 : ∀ w ∈ wsX30, w ∈ wsX2_hasNoRightSidesLeft := by decide +kernel
  have q_f_RX2_91_Elimination_pivots_I := hts (.fieldLink RX2 91 "LimbSolver$Elimination" "pivots" "I") (by decide +kernel)
  have hl : lv_has ls 2 [(0, .ref (ad 5))] := hl
  have lp : ∀ (t : Nat) (k9 : Nat) (H : Heap) (locs : List Loc) (ls : Array Slot), (r + k9 + t = n) → (pe_svk M n r k9 = 1) →  va_P D vwCl (pw NP ad G) H → va_D A (pw NP ad G) → va_S A s.heap H locs → lv_has ls 2 [(1, .int (iZ (((r + k9 : Nat) : Int)))), (0, .ref (ad 5))] → W zp l ze (zRm 0 0) s zm args below meth zc H locs 0 0 Q (F0 zm 5 ls []) := by
    intro t
    induction t with
    | zero =>
      intro k9 H locs ls hkt hsv hP hD hS hl
      refine lv_iload_n hx hb dX2_hasNoRightSidesLeft_5 rfl (lv_at hl 0 rfl) ?_
      refine lv_aload_n hx hb dX2_hasNoRightSidesLeft_6 rfl (lv_at hl 1 rfl) ?_
      refine va_get (D := D) (ci := 2) (v := .int (iZ (((n : Nat) : Int)))) (C := RX2) (T := TX2) (N := 17) hx hb hts hin2 hown hK hP (5) (pw_at (by omega) (hel)) rfl 12 (by decide) q_f_RX2_85_Elimination_n_I (fun _ h9 => h9) rfl dX2_hasNoRightSidesLeft_7 ?_
      refine zr_icmp_ge hx hb 41 ⟨by omega, by omega⟩ ⟨by omega, by omega⟩ dX2_hasNoRightSidesLeft_10 (by decide) (fun h_10 => ?_) (fun h_10 => ?_)
      · refine lv_iconst (v := iZ 1) hx hb dX2_hasNoRightSidesLeft_41 rfl ?_
        exact zr_zret hQ hx hb hr hlk dX2_hasNoRightSidesLeft_42 hK hP hD hS (by omega) (by omega) (by omega) (⟨G, rfl, by rw [← show k9 = n - r by omega]; exact hsv.symm, fun _ => rfl⟩)
      · exfalso; omega
    | succ t ih =>
      intro k9 H locs ls hkt hsv hP hD hS hl
      refine lv_iload_n hx hb dX2_hasNoRightSidesLeft_5 rfl (lv_at hl 0 rfl) ?_
      refine lv_aload_n hx hb dX2_hasNoRightSidesLeft_6 rfl (lv_at hl 1 rfl) ?_
      refine va_get (D := D) (ci := 2) (v := .int (iZ (((n : Nat) : Int)))) (C := RX2) (T := TX2) (N := 17) hx hb hts hin2 hown hK hP (5) (pw_at (by omega) (hel)) rfl 12 (by decide) q_f_RX2_85_Elimination_n_I (fun _ h9 => h9) rfl dX2_hasNoRightSidesLeft_7 ?_
      refine zr_icmp_ge hx hb 41 ⟨by omega, by omega⟩ ⟨by omega, by omega⟩ dX2_hasNoRightSidesLeft_10 (by decide) (fun h_10 => ?_) (fun h_10 => ?_)
      · exfalso; omega
      · have hρi := hst.2.2.2.2.1 (r + k9) (by omega)
        refine lv_aload_n hx hb dX2_hasNoRightSidesLeft_13 rfl (lv_at hl 1 rfl) ?_
        refine va_get (D := D) (ci := 2) (v := .ref (ad 33)) (C := RX2) (T := TX2) (N := 17) hx hb hts hin2 hown hK hP (5) (pw_at (by omega) (hel)) rfl 1 (by decide) q_f_RX2_20_Elimination_rows_LRow (fun _ h9 => h9) rfl dX2_hasNoRightSidesLeft_14 ?_
        refine lv_iload_n hx hb dX2_hasNoRightSidesLeft_17 rfl (lv_at hl 0 rfl) ?_
        refine zr_aald hx hb hK hP (33) 4 (pw_at (by omega) (hst.1)) rfl (r + k9) (by omega) (by omega) (by omega) (v := ad (37 + 66 * ρ (r + k9))) (rfl) dX2_hasNoRightSidesLeft_18 ?_
        refine va_getN (D := D) (ci := 8) (v := .ref (ad (38 + 66 * ρ (r + k9)))) (C := RX8) (T := TX8) (N := 4) hx hb hts hin8 hown hK hP (37 + 66 * ρ (r + k9)) (pw_at (by omega) (hrow (r + k9) (by omega))) rfl 0 (by decide) (hN.F 16 rfl) (fun _ h9 => h9) rfl dX2_hasNoRightSidesLeft_19 ?_
        refine lv_aload_n hx hb dX2_hasNoRightSidesLeft_22 rfl (lv_at hl 1 rfl) ?_
        refine va_get (D := D) (ci := 2) (v := .int (iZ (((n : Nat) : Int)))) (C := RX2) (T := TX2) (N := 17) hx hb hts hin2 hown hK hP (5) (pw_at (by omega) (hel)) rfl 12 (by decide) q_f_RX2_85_Elimination_n_I (fun _ h9 => h9) rfl dX2_hasNoRightSidesLeft_23 ?_
        refine zr_aald hx hb hK hP (38 + 66 * ρ (r + k9)) 2 (pw_at (by omega) ((hst.2.2.2.1 (ρ (r + k9)) (hst.2.2.2.2.1 (r + k9) (by omega))).1)) rfl (n) (by omega) (by omega) (by omega) (v := ad (40 + 66 * ρ (r + k9) + 8 * n)) (rfl) dX2_hasNoRightSidesLeft_26 ?_
        refine va_getN (D := D) (ci := 3) (v := .int (iZ ((E (r + k9) n).sign))) (C := RX3) (T := TX3) (N := 2) hx hb hts hin3 hown hK hP (40 + 66 * ρ (r + k9) + 8 * n) (pw_at (by omega) ((hE (r + k9) (by omega) (by omega)).1)) rfl 1 (by decide) (hN.F 11 rfl) (fun _ h9 => h9) rfl dX2_hasNoRightSidesLeft_27 ?_
        refine zr_if_eq hx hb 35 (sg_r _) dX2_hasNoRightSidesLeft_30 (by decide) (fun h_30 => ?_) (fun h_30 => ?_)
        · refine lv_iinc (v := iZ (((r + (k9 + 1) : Nat) : Int))) (lv' := [(1, .int (iZ (((r + (k9 + 1) : Nat) : Int)))), (0, .ref (ad 5))]) hx hb dX2_hasNoRightSidesLeft_35 hl (k := 0) rfl (by rw [show ((r + (k9 + 1) : Nat) : Int) = ((r + k9 : Nat) : Int) + 1 by omega]; exact iZ_add _ _) (by decide) rfl (fun ls hl => ?_)
          refine lv_goto (tgt := 5) hx hb dX2_hasNoRightSidesLeft_38 (by decide) ?_
          exact ih (k9 + 1) H locs ls (by omega) (by show (if M (r + k9) n = 0 then pe_svk M n r k9 else 0) = 1; rw [if_pos ((hEM (r + k9) (by omega) (by omega)).mp (pr_s0 h_30))]; exact hsv) hP hD hS (lv_sub hl [0, 1] rfl)
        · refine lv_iconst (v := iZ 0) hx hb dX2_hasNoRightSidesLeft_33 rfl ?_
          exact zr_zret hQ hx hb hr hlk dX2_hasNoRightSidesLeft_34 hK hP hD hS (by omega) (by omega) (by omega) (⟨G, rfl, (pe_svk_0 (k := k9) (fun q => h_30 (by rw [(hEM (r + k9) (by omega) (by omega)).mpr q]; rfl)) (n - r) (by omega)).symm, fun _ => rfl⟩)
  refine lv_aload_n hx hb dX2_hasNoRightSidesLeft_0 rfl (lv_at hl 0 rfl) ?_
  refine va_get (D := D) (ci := 2) (v := .int (iZ (((r : Nat) : Int)))) (C := RX2) (T := TX2) (N := 17) hx hb hts hin2 hown hK hP (5) (pw_at (by omega) (hel)) rfl 14 (by decide) q_f_RX2_91_Elimination_pivots_I (fun _ h9 => h9) rfl dX2_hasNoRightSidesLeft_1 ?_
  refine zr_eqi (((r + 0 : Nat) : Int)) (by rfl) ?_
  refine lv_istore_n (lv' := [(1, .int (iZ (((r + 0 : Nat) : Int)))), (0, .ref (ad 5))]) hx hb dX2_hasNoRightSidesLeft_4 rfl hl (by decide) rfl (fun ls hl => ?_)
  exact lp (n - r) 0 s.heap [] ls (by omega) rfl hP hD hS (lv_sub hl [0, 1] rfl)

set_option maxHeartbeats 4000000 in
set_option maxRecDepth 100000 in
/-- Elimination.stateLimbs -/
theorem p_stateLimbs (l : Launch) (D : va_G) (cI cJ cE cF cR : ClassId) (NP : Nat) (ad : Nat → Nat) (G : Nat → va_E) (M : Nat → Nat → Rat) (L9 n : Nat) (tn pv ml sv : Int) (hel : G 5 = .inr (2, [.ref (ad 6), .ref (ad 33), .ref (ad 34), .ref (ad 35), .ref (ad 454), .ref (ad 459), .ref (ad 464), .ref (ad 466), .ref (ad 468), .ref (ad 470), .ref (ad 36), .ref (ad L9), .int (iZ (((n : Nat) : Int))), .int (iZ (tn)), .int (iZ (pv)), .int (iZ (ml)), .int (iZ (sv))])) (ρ : Nat → Nat) (pcf : Nat → Int) (hst : pSt cE cF cR ad G ρ) (hrow : ∀ i9 : Nat, i9 < n → G (37 + 66 * ρ i9) = .inr (8, [.ref (ad (38 + 66 * ρ i9)), .ref (ad (39 + 66 * ρ i9)), .ref (ad (96 + 66 * ρ i9)), .int (iZ (pcf i9))])) (hC : ∀ i9 j9 : Nat, i9 < n → j9 ≤ n → pFr cI ad G (43 + 66 * ρ i9 + 8 * j9) 80 (M i9 j9)) (hrl : ∀ i9 j9 : Nat, i9 < n → j9 ≤ n → rl (M i9 j9) ≤ 1000) (hn6 : n ≤ 6) (hNP : 480 ≤ NP) : Ci l D (zty cI cJ cE cF cR) yX2_stateLimbs wsX2_stateLimbs (zRm 3 80) 0 0 [.ref (ad 5)] (pw NP ad G) (fun z9 w1 => ∃ G1 : Nat → va_E, w1 = pw NP ad G1 ∧ z9 = ((pe_mt n M : Nat) : Int) ∧ ∀ i9 : Nat, G1 i9 = G i9) := by
  unfold Ci
  refine zs (Qc := zQi D _ _) (cc := cX2_stateLimbs) (maxL := 4) (ret := (some .int)) (by decide) rfl (Nat.le_of_ble_eq_true rfl) ?_
  intro zp ze s zm below meth zc ls A args Q hQ hx hb hr hts hown hlk hml hnm hN hA hK hP hD hS hl
  have q_f_RX2_85_Elimination_n_I := hts (.fieldLink RX2 85 "LimbSolver$Elimination" "n" "I") (by decide +kernel)
  have hin2 : ∀ w ∈ wsX20, w ∈ wsX2_stateLimbs := by decide +kernel
  have q_f_RX2_20_Elimination_rows_LRow := hts (.fieldLink RX2 20 "LimbSolver$Elimination" "rows" "[LLimbSolver$Row;") (by decide +kernel)
  have hin8 : ∀ w ∈ wsX80, w ∈ wsX2_stateLimbs := by decide +kernel
  have hl : lv_has ls 4 [(0, .ref (ad 5))] := hl
  have lp : ∀ (t : Nat) (i : Nat) (sm : Nat) (H : Heap) (locs : List Loc) (ls : Array Slot), (i + t = n) → (sm = mta (pe_fl M) n i) → (sm ≤ 7000 * i) →  va_P D vwCl (pw NP ad G) H → va_D A (pw NP ad G) → va_S A s.heap H locs → lv_has ls 4 [(2, .int (iZ (((i : Nat) : Int)))), (1, .int (iZ (((sm : Nat) : Int)))), (0, .ref (ad 5))] → W zp l ze (zRm 3 80) s zm args below meth zc H locs 0 0 Q (F0 zm 4 ls []) := by
    intro t
    induction t with
    | zero =>
      intro i sm H locs ls hit hsa hsb hP hD hS hl
      refine lv_iload_n hx hb dX2_stateLimbs_4 rfl (lv_at hl 0 rfl) ?_
      refine lv_aload_n hx hb dX2_stateLimbs_5 rfl (lv_at hl 2 rfl) ?_
      refine va_get (D := D) (ci := 2) (v := .int (iZ (((n : Nat) : Int)))) (C := RX2) (T := TX2) (N := 17) hx hb hts hin2 hown hK hP (5) (pw_at (by omega) (hel)) rfl 12 (by decide) q_f_RX2_85_Elimination_n_I (fun _ h9 => h9) rfl dX2_stateLimbs_6 ?_
      refine zr_icmp_ge hx hb 51 ⟨by omega, by omega⟩ ⟨by omega, by omega⟩ dX2_stateLimbs_9 (by decide) (fun h_9 => ?_) (fun h_9 => ?_)
      · refine lv_iload_n hx hb dX2_stateLimbs_51 rfl (lv_at hl 1 rfl) ?_
        exact zr_iret hQ hx hb hr hlk dX2_stateLimbs_52 hK hP hD hS (by omega) (by omega) ⟨by omega, by omega⟩ (⟨G, rfl, by rw [hsa, show i = n by omega]; rfl, fun _ => rfl⟩)
      · exfalso; omega
    | succ t ih =>
      intro i sm H locs ls hit hsa hsb hP hD hS hl
      have ihO := ih
      have inner : ∀ (t : Nat) (j : Nat) (sm : Nat) (H : Heap) (locs : List Loc) (ls : Array Slot), (j + t = n + 1) → (sm = mta (pe_fl M) n i + mtr (pe_fl M) i j) → (sm ≤ 7000 * i + 1000 * j) →  va_P D vwCl (pw NP ad G) H → va_D A (pw NP ad G) → va_S A s.heap H locs → lv_has ls 4 [(3, .int (iZ (((j : Nat) : Int)))), (2, .int (iZ (((i : Nat) : Int)))), (1, .int (iZ (((sm : Nat) : Int)))), (0, .ref (ad 5))] → W zp l ze (zRm 3 80) s zm args below meth zc H locs 0 0 Q (F0 zm 14 ls []) := by
        intro t
        induction t with
        | zero =>
          intro j sm H locs ls hjt hsr hsb hP hD hS hl
          refine lv_iload_n hx hb dX2_stateLimbs_14 rfl (lv_at hl 0 rfl) ?_
          refine lv_aload_n hx hb dX2_stateLimbs_15 rfl (lv_at hl 3 rfl) ?_
          refine va_get (D := D) (ci := 2) (v := .int (iZ (((n : Nat) : Int)))) (C := RX2) (T := TX2) (N := 17) hx hb hts hin2 hown hK hP (5) (pw_at (by omega) (hel)) rfl 12 (by decide) q_f_RX2_85_Elimination_n_I (fun _ h9 => h9) rfl dX2_stateLimbs_16 ?_
          refine zr_icmp_gt hx hb 45 ⟨by omega, by omega⟩ ⟨by omega, by omega⟩ dX2_stateLimbs_19 (by decide) (fun h_19 => ?_) (fun h_19 => ?_)
          · refine lv_iinc (v := iZ (((i + 1 : Nat) : Int))) (lv' := [(2, .int (iZ (((i + 1 : Nat) : Int)))), (3, .int (iZ (((j : Nat) : Int)))), (1, .int (iZ (((sm : Nat) : Int)))), (0, .ref (ad 5))]) hx hb dX2_stateLimbs_45 hl (k := 1) rfl (by rw [show ((i + 1 : Nat) : Int) = ((i : Nat) : Int) + 1 by omega]; exact iZ_add _ _) (by decide) rfl (fun ls hl => ?_)
            refine lv_goto (tgt := 4) hx hb dX2_stateLimbs_48 (by decide) ?_
            exact ihO (i + 1) sm H locs ls (by omega) (by rw [hsr, show j = n + 1 by omega]; rfl) (by omega) hP hD hS (lv_sub hl [0, 2, 3] rfl)
          · exfalso; omega
        | succ t ih =>
          intro j sm H locs ls hjt hsr hsb hP hD hS hl
          refine lv_iload_n hx hb dX2_stateLimbs_14 rfl (lv_at hl 0 rfl) ?_
          refine lv_aload_n hx hb dX2_stateLimbs_15 rfl (lv_at hl 3 rfl) ?_
          refine va_get (D := D) (ci := 2) (v := .int (iZ (((n : Nat) : Int)))) (C := RX2) (T := TX2) (N := 17) hx hb hts hin2 hown hK hP (5) (pw_at (by omega) (hel)) rfl 12 (by decide) q_f_RX2_85_Elimination_n_I (fun _ h9 => h9) rfl dX2_stateLimbs_16 ?_
          refine zr_icmp_gt hx hb 45 ⟨by omega, by omega⟩ ⟨by omega, by omega⟩ dX2_stateLimbs_19 (by decide) (fun h_19 => ?_) (fun h_19 => ?_)
          · exfalso; omega
          · have hρ_i := hst.2.2.2.2.1 i (by omega)
            have hrl9 := hrl i j (by omega) (by omega)
            refine lv_iload_n hx hb dX2_stateLimbs_22 rfl (lv_at hl 2 rfl) ?_
            refine lv_aload_n hx hb dX2_stateLimbs_23 rfl (lv_at hl 3 rfl) ?_
            refine va_get (D := D) (ci := 2) (v := .ref (ad 33)) (C := RX2) (T := TX2) (N := 17) hx hb hts hin2 hown hK hP (5) (pw_at (by omega) (hel)) rfl 1 (by decide) q_f_RX2_20_Elimination_rows_LRow (fun _ h9 => h9) rfl dX2_stateLimbs_24 ?_
            refine lv_iload_n hx hb dX2_stateLimbs_27 rfl (lv_at hl 1 rfl) ?_
            refine zr_aald hx hb hK hP (33) 4 (pw_at (by omega) (hst.1)) rfl (i) (by omega) (by omega) (by omega) (v := ad (37 + 66 * ρ i)) (rfl) dX2_stateLimbs_28 ?_
            refine va_getN (D := D) (ci := 8) (v := .ref (ad (39 + 66 * ρ i))) (C := RX8) (T := TX8) (N := 4) hx hb hts hin8 hown hK hP (37 + 66 * ρ i) (pw_at (by omega) (hrow i (by omega))) rfl 1 (by decide) (hN.F 17 rfl) (fun _ h9 => h9) rfl dX2_stateLimbs_29 ?_
            refine lv_iload_n hx hb dX2_stateLimbs_32 rfl (lv_at hl 0 rfl) ?_
            refine zr_aald hx hb hK hP (39 + 66 * ρ i) 3 (pw_at (by omega) ((hst.2.2.2.1 (ρ i) (hst.2.2.2.2.1 i (by omega))).2)) rfl (j) (by omega) (by omega) (by omega) (v := ad (43 + 66 * ρ i + 8 * j)) (rfl) dX2_stateLimbs_33 ?_
            refine zc_Vi (As := []) (rest := [.int (iZ (((sm : Nat) : Int)))]) (wr := []) ⟨hx, hb, hml, hown, hts⟩ (p_flimb l D cI cJ cE cF cR NP ad G (43 + 66 * ρ i + 8 * j) 80 (M i j) (hC i j (by omega) (by omega)) (by decide) (by omega)) (cwV 0 hts gX2_stateLimbs_X6_limbCount rfl rfl rfl (by decide +kernel) ⟨Nat.le_of_ble_eq_true rfl, Nat.le_of_ble_eq_true rfl⟩) hN hK hP hD hS hA (List.range NP) [] (pw_all _ _ _) rfl (pw_nd _) rfl (fun _ h9 => nomatch h9) (q0 := 43 + 66 * ρ i + 8 * j) (ci := 6) rfl rfl (pw_at (by omega) ((hC i j (by omega) (by omega)).1)) rfl hl.1 (Nat.le_of_ble_eq_true rfl) dX2_stateLimbs_34 ⟨by decide, by decide⟩ (fun z34 w1 H locs hz34 hp hP hD hS => ?_)
            obtain ⟨G9, rfl, hr0, ho9⟩ := hp
            obtain rfl : G = G9 := (funext ho9).symm
            subst hr0
            have hP : va_P D vwCl (pw NP ad G) H := hP
            have hD : va_D A (pw NP ad G) := hD
            refine zr_iadd hx hb dX2_stateLimbs_37 ?_
            refine zr_eqi (((sm + rl (M i j) : Nat) : Int)) (by omega) ?_
            refine lv_istore_n (lv' := [(1, .int (iZ (((sm + rl (M i j) : Nat) : Int)))), (3, .int (iZ (((j : Nat) : Int)))), (2, .int (iZ (((i : Nat) : Int)))), (0, .ref (ad 5))]) hx hb dX2_stateLimbs_38 rfl hl (by decide) rfl (fun ls hl => ?_)
            refine lv_iinc (v := iZ (((j + 1 : Nat) : Int))) (lv' := [(3, .int (iZ (((j + 1 : Nat) : Int)))), (1, .int (iZ (((sm + rl (M i j) : Nat) : Int)))), (2, .int (iZ (((i : Nat) : Int)))), (0, .ref (ad 5))]) hx hb dX2_stateLimbs_39 hl (k := 1) rfl (by rw [show ((j + 1 : Nat) : Int) = ((j : Nat) : Int) + 1 by omega]; exact iZ_add _ _) (by decide) rfl (fun ls hl => ?_)
            refine lv_goto (tgt := 14) hx hb dX2_stateLimbs_42 (by decide) ?_
            exact ih (j + 1) _ H locs ls (by omega) (by rw [hsr]; show _ = mta (pe_fl M) n i + (mtr (pe_fl M) i j + rl ((pe_fl M) (7 * i + j))); rw [pe_fl_at _ (by omega)]; omega) (by omega) hP hD hS (lv_sub hl [0, 2, 1, 3] rfl)
      refine lv_iload_n hx hb dX2_stateLimbs_4 rfl (lv_at hl 0 rfl) ?_
      refine lv_aload_n hx hb dX2_stateLimbs_5 rfl (lv_at hl 2 rfl) ?_
      refine va_get (D := D) (ci := 2) (v := .int (iZ (((n : Nat) : Int)))) (C := RX2) (T := TX2) (N := 17) hx hb hts hin2 hown hK hP (5) (pw_at (by omega) (hel)) rfl 12 (by decide) q_f_RX2_85_Elimination_n_I (fun _ h9 => h9) rfl dX2_stateLimbs_6 ?_
      refine zr_icmp_ge hx hb 51 ⟨by omega, by omega⟩ ⟨by omega, by omega⟩ dX2_stateLimbs_9 (by decide) (fun h_9 => ?_) (fun h_9 => ?_)
      · exfalso; omega
      · refine lv_iconst (v := iZ 0) hx hb dX2_stateLimbs_12 rfl ?_
        refine zr_eqi (((0 : Nat) : Int)) (by rfl) ?_
        refine lv_istore_n (lv' := [(3, .int (iZ (((0 : Nat) : Int)))), (2, .int (iZ (((i : Nat) : Int)))), (1, .int (iZ (((sm : Nat) : Int)))), (0, .ref (ad 5))]) hx hb dX2_stateLimbs_13 rfl hl (by decide) rfl (fun ls hl => ?_)
        exact inner (n + 1) 0 sm H locs ls (by omega) hsa (by omega) hP hD hS (lv_sub hl [0, 1, 2, 3] rfl)
  refine lv_iconst (v := iZ 0) hx hb dX2_stateLimbs_0 rfl ?_
  refine zr_eqi (((0 : Nat) : Int)) (by rfl) ?_
  refine lv_istore_n (lv' := [(1, .int (iZ (((0 : Nat) : Int)))), (0, .ref (ad 5))]) hx hb dX2_stateLimbs_1 rfl hl (by decide) rfl (fun ls hl => ?_)
  refine lv_iconst (v := iZ 0) hx hb dX2_stateLimbs_2 rfl ?_
  refine zr_eqi (((0 : Nat) : Int)) (by rfl) ?_
  refine lv_istore_n (lv' := [(2, .int (iZ (((0 : Nat) : Int)))), (1, .int (iZ (((0 : Nat) : Int)))), (0, .ref (ad 5))]) hx hb dX2_stateLimbs_3 rfl hl (by decide) rfl (fun ls hl => ?_)
  exact lp n 0 0 s.heap [] ls (by omega) rfl (by omega) hP hD hS (lv_sub hl [0, 1, 2] rfl)

set_option maxHeartbeats 4000000 in
set_option maxRecDepth 100000 in
/-- Elimination.changePlaces -/
theorem p_changePlaces (l : Launch) (D : va_G) (cI cJ cE cF cR : ClassId) (NP : Nat) (ad : Nat → Nat) (G : Nat → va_E) (a b L9 n : Nat) (tn pv ml sv : Int) (hel : G 5 = .inr (2, [.ref (ad 6), .ref (ad 33), .ref (ad 34), .ref (ad 35), .ref (ad 454), .ref (ad 459), .ref (ad 464), .ref (ad 466), .ref (ad 468), .ref (ad 470), .ref (ad 36), .ref (ad L9), .int (iZ (((n : Nat) : Int))), .int (iZ (tn)), .int (iZ (pv)), .int (iZ (ml)), .int (iZ (sv))])) (ρ : Nat → Nat) (pcf : Nat → Int) (hst : pSt cE cF cR ad G ρ) (hrow : ∀ i9 : Nat, i9 < n → G (37 + 66 * ρ i9) = .inr (8, [.ref (ad (38 + 66 * ρ i9)), .ref (ad (39 + 66 * ρ i9)), .ref (ad (96 + 66 * ρ i9)), .int (iZ (pcf i9))])) (ha : a < n) (hb9 : b < n) (hn6 : n ≤ 6) (hNP : 480 ≤ NP) : Cv l D (zty cI cJ cE cF cR) yX2_changePlaces wsX2_changePlaces (zRm 0 0) 0 0 [.ref (ad 5), .int (iZ (((a : Nat) : Int))), .int (iZ (((b : Nat) : Int)))] (pw NP ad G) (fun w1 => ∃ G1 : Nat → va_E, w1 = pw NP ad G1 ∧ G1 5 = .inr (2, [.ref (ad 6), .ref (ad 33), .ref (ad 34), .ref (ad 35), .ref (ad 454), .ref (ad 459), .ref (ad 464), .ref (ad 466), .ref (ad 468), .ref (ad 470), .ref (ad 36), .ref (ad L9), .int (iZ (((n : Nat) : Int))), .int (iZ (if a = b then tn else -tn)), .int (iZ (pv)), .int (iZ (ml)), .int (iZ (sv))]) ∧ G1 33 = aR cR 6 (fun i => some (ad (37 + 66 * (fun i => if a = b then ρ i else if i = a then ρ b else if i = b then ρ a else ρ i) i))) ∧ ∀ i9 : Nat, i9 ≠ 5 → i9 ≠ 33 → G1 i9 = G i9) := by
  unfold Cv
  refine zs (Qc := zQv D _ _) (cc := cX2_changePlaces) (maxL := 4) (ret := none) (by decide) rfl (Nat.le_of_ble_eq_true rfl) ?_
  intro zp ze s zm below meth zc ls A args Q hQ hx hb hr hts hown hlk hml hnm hN hA hK hP hD hS hl
  have q_f_RX2_20_Elimination_rows_LRow := hts (.fieldLink RX2 20 "LimbSolver$Elimination" "rows" "[LLimbSolver$Row;") (by decide +kernel)
  have hin2 : ∀ w ∈ wsX20, w ∈ wsX2_changePlaces := by decide +kernel
  have q_f_RX2_88_Elimination_turn_I := hts (.fieldLink RX2 88 "LimbSolver$Elimination" "turn" "I") (by decide +kernel)
  have hl : lv_has ls 4 [(0, .ref (ad 5)), (1, .int (iZ (((a : Nat) : Int)))), (2, .int (iZ (((b : Nat) : Int))))] := hl
  refine lv_iload_n hx hb dX2_changePlaces_0 rfl (lv_at hl 1 rfl) ?_
  refine lv_iload_n hx hb dX2_changePlaces_1 rfl (lv_at hl 2 rfl) ?_
  refine zr_icmp_ne hx hb 6 ⟨by omega, by omega⟩ ⟨by omega, by omega⟩ dX2_changePlaces_2 (by decide) (fun h_2 => ?_) (fun h_2 => ?_)
  · have hρa := hst.2.2.2.2.1 a (by omega)
    have hρb := hst.2.2.2.2.1 b (by omega)
    have hab : a ≠ b := by omega
    refine lv_aload_n hx hb dX2_changePlaces_6 rfl (lv_at hl 0 rfl) ?_
    refine va_get (D := D) (ci := 2) (v := .ref (ad 33)) (C := RX2) (T := TX2) (N := 17) hx hb hts hin2 hown hK hP (5) (pw_at (by omega) (hel)) rfl 1 (by decide) q_f_RX2_20_Elimination_rows_LRow (fun _ h9 => h9) rfl dX2_changePlaces_7 ?_
    refine lv_iload_n hx hb dX2_changePlaces_10 rfl (lv_at hl 1 rfl) ?_
    refine zr_aald hx hb hK hP (33) 4 (pw_at (by omega) (hst.1)) rfl (a) (by omega) (by omega) (by omega) (v := ad (37 + 66 * ρ a)) (rfl) dX2_changePlaces_11 ?_
    refine lv_astore_n (lv' := [(3, .ref (ad (37 + 66 * ρ a))), (0, .ref (ad 5)), (1, .int (iZ (((a : Nat) : Int)))), (2, .int (iZ (((b : Nat) : Int))))]) hx hb dX2_changePlaces_12 rfl hl (by decide) rfl (fun ls hl => ?_)
    refine lv_aload_n hx hb dX2_changePlaces_13 rfl (lv_at hl 1 rfl) ?_
    refine va_get (D := D) (ci := 2) (v := .ref (ad 33)) (C := RX2) (T := TX2) (N := 17) hx hb hts hin2 hown hK hP (5) (pw_at (by omega) (hel)) rfl 1 (by decide) q_f_RX2_20_Elimination_rows_LRow (fun _ h9 => h9) rfl dX2_changePlaces_14 ?_
    refine lv_iload_n hx hb dX2_changePlaces_17 rfl (lv_at hl 2 rfl) ?_
    refine lv_aload_n hx hb dX2_changePlaces_18 rfl (lv_at hl 1 rfl) ?_
    refine va_get (D := D) (ci := 2) (v := .ref (ad 33)) (C := RX2) (T := TX2) (N := 17) hx hb hts hin2 hown hK hP (5) (pw_at (by omega) (hel)) rfl 1 (by decide) q_f_RX2_20_Elimination_rows_LRow (fun _ h9 => h9) rfl dX2_changePlaces_19 ?_
    refine lv_iload_n hx hb dX2_changePlaces_22 rfl (lv_at hl 3 rfl) ?_
    refine zr_aald hx hb hK hP (33) 4 (pw_at (by omega) (hst.1)) rfl (b) (by omega) (by omega) (by omega) (v := ad (37 + 66 * ρ b)) (rfl) dX2_changePlaces_23 ?_
    refine zr_aast hx hb hK hP hD hS (33) 4 (37 + 66 * ρ b) 8 (pw_at (by omega) (hst.1)) rfl (pw_at (by omega) (hrow b (by omega))) rfl (a) (by omega) (by omega) (by omega) dX2_changePlaces_24 (fun H locs hP hD hS => ?_)
    rw [pw_set] at hP hD
    obtain ⟨G_24, hg24⟩ : ∃ g : Nat → va_E, g = zu G (33) (aR cR (6) (zu (fun i => some (ad (37 + 66 * ρ i))) (a) (some (ad (37 + 66 * ρ b))))) := ⟨_, rfl⟩
    have hP : va_P D vwCl (pw NP ad G_24) H := by rw [hg24]; exact hP
    have hD : va_D A (pw NP ad G_24) := by rw [hg24]; exact hD
    have ho24 : ∀ k : Nat, k ≠ 33 → G_24 k = G k := fun k hk => by rw [hg24]; exact zu_n _ _ hk
    have he24 : G_24 (33) = aR cR (6) (zu (fun i => some (ad (37 + 66 * ρ i))) (a) (some (ad (37 + 66 * ρ b)))) := by rw [hg24]; exact zu_s _ _ _
    have k24_1 : G_24 (5) = .inr (2, [.ref (ad 6), .ref (ad 33), .ref (ad 34), .ref (ad 35), .ref (ad 454), .ref (ad 459), .ref (ad 464), .ref (ad 466), .ref (ad 468), .ref (ad 470), .ref (ad 36), .ref (ad L9), .int (iZ (((n : Nat) : Int))), .int (iZ (tn)), .int (iZ (pv)), .int (iZ (ml)), .int (iZ (sv))]) := (ho24 (5) (by omega)).trans (hel)
    have k24_2 : G_24 (37 + 66 * ρ a) = .inr (8, [.ref (ad (38 + 66 * ρ a)), .ref (ad (39 + 66 * ρ a)), .ref (ad (96 + 66 * ρ a)), .int (iZ (pcf a))]) := (ho24 (37 + 66 * ρ a) (by omega)).trans (hrow a (by omega))
    have k24_3 : G_24 (37 + 66 * ρ b) = .inr (8, [.ref (ad (38 + 66 * ρ b)), .ref (ad (39 + 66 * ρ b)), .ref (ad (96 + 66 * ρ b)), .int (iZ (pcf b))]) := (ho24 (37 + 66 * ρ b) (by omega)).trans (hrow b (by omega))
    refine lv_aload_n hx hb dX2_changePlaces_25 rfl (lv_at hl 1 rfl) ?_
    refine va_get (D := D) (ci := 2) (v := .ref (ad 33)) (C := RX2) (T := TX2) (N := 17) hx hb hts hin2 hown hK hP (5) (pw_at (by omega) (k24_1)) rfl 1 (by decide) q_f_RX2_20_Elimination_rows_LRow (fun _ h9 => h9) rfl dX2_changePlaces_26 ?_
    refine lv_iload_n hx hb dX2_changePlaces_29 rfl (lv_at hl 3 rfl) ?_
    refine lv_aload_n hx hb dX2_changePlaces_30 rfl (lv_at hl 0 rfl) ?_
    refine zr_aast hx hb hK hP hD hS (33) 4 (37 + 66 * ρ a) 8 (pw_at (by omega) (he24)) rfl (pw_at (by omega) (k24_2)) rfl (b) (by omega) (by omega) (by omega) dX2_changePlaces_31 (fun H locs hP hD hS => ?_)
    rw [pw_set] at hP hD
    obtain ⟨G_31, hg31⟩ : ∃ g : Nat → va_E, g = zu G_24 (33) (aR cR (6) (zu (zu (fun i => some (ad (37 + 66 * ρ i))) (a) (some (ad (37 + 66 * ρ b)))) (b) (some (ad (37 + 66 * ρ a))))) := ⟨_, rfl⟩
    have hP : va_P D vwCl (pw NP ad G_31) H := by rw [hg31]; exact hP
    have hD : va_D A (pw NP ad G_31) := by rw [hg31]; exact hD
    have ho31 : ∀ k : Nat, k ≠ 33 → G_31 k = G_24 k := fun k hk => by rw [hg31]; exact zu_n _ _ hk
    have he31 : G_31 (33) = aR cR (6) (zu (zu (fun i => some (ad (37 + 66 * ρ i))) (a) (some (ad (37 + 66 * ρ b)))) (b) (some (ad (37 + 66 * ρ a)))) := by rw [hg31]; exact zu_s _ _ _
    have k31_0 : G_31 (5) = .inr (2, [.ref (ad 6), .ref (ad 33), .ref (ad 34), .ref (ad 35), .ref (ad 454), .ref (ad 459), .ref (ad 464), .ref (ad 466), .ref (ad 468), .ref (ad 470), .ref (ad 36), .ref (ad L9), .int (iZ (((n : Nat) : Int))), .int (iZ (tn)), .int (iZ (pv)), .int (iZ (ml)), .int (iZ (sv))]) := (ho31 (5) (by omega)).trans (k24_1)
    have k31_1 : G_31 (37 + 66 * ρ a) = .inr (8, [.ref (ad (38 + 66 * ρ a)), .ref (ad (39 + 66 * ρ a)), .ref (ad (96 + 66 * ρ a)), .int (iZ (pcf a))]) := (ho31 (37 + 66 * ρ a) (by omega)).trans (k24_2)
    have k31_2 : G_31 (37 + 66 * ρ b) = .inr (8, [.ref (ad (38 + 66 * ρ b)), .ref (ad (39 + 66 * ρ b)), .ref (ad (96 + 66 * ρ b)), .int (iZ (pcf b))]) := (ho31 (37 + 66 * ρ b) (by omega)).trans (k24_3)
    refine lv_aload_n hx hb dX2_changePlaces_32 rfl (lv_at hl 1 rfl) ?_
    refine lv_aload_n hx hb dX2_changePlaces_33 rfl (lv_at hl 1 rfl) ?_
    refine va_get (D := D) (ci := 2) (v := .int (iZ (tn))) (C := RX2) (T := TX2) (N := 17) hx hb hts hin2 hown hK hP (5) (pw_at (by omega) (k31_0)) rfl 13 (by decide) q_f_RX2_88_Elimination_turn_I (fun _ h9 => h9) rfl dX2_changePlaces_34 ?_
    refine zr_ineg hx hb dX2_changePlaces_37 ?_
    refine va_put (D := D) (ci := 2) (v := .int (iZ (-(tn)))) (ty := tyX2 13) (C := RX2) (T := TX2) (N := 17) hx hb hts hin2 tyX2 tyX2_ok nmX2 hown hK hP hD hS (5) (pw_at (by omega) (k31_0)) rfl 13 (by decide) q_f_RX2_88_Elimination_turn_I (fun _ h9 => h9) rfl (tyX2_ok 13 (by decide)) rfl rfl (Nat.le_of_ble_eq_true rfl) dX2_changePlaces_38 (fun H locs hP hD hS => ?_)
    rw [pw_set] at hP hD
    obtain ⟨G_38, hg38⟩ : ∃ g : Nat → va_E, g = zu G_31 (5) (.inr (2, [.ref (ad 6), .ref (ad 33), .ref (ad 34), .ref (ad 35), .ref (ad 454), .ref (ad 459), .ref (ad 464), .ref (ad 466), .ref (ad 468), .ref (ad 470), .ref (ad 36), .ref (ad L9), .int (iZ (((n : Nat) : Int))), .int (iZ (-(tn))), .int (iZ (pv)), .int (iZ (ml)), .int (iZ (sv))])) := ⟨_, rfl⟩
    have hP : va_P D vwCl (pw NP ad G_38) H := by rw [hg38]; exact hP
    have hD : va_D A (pw NP ad G_38) := by rw [hg38]; exact hD
    have ho38 : ∀ k : Nat, k ≠ 5 → G_38 k = G_31 k := fun k hk => by rw [hg38]; exact zu_n _ _ hk
    have he38 : G_38 (5) = .inr (2, [.ref (ad 6), .ref (ad 33), .ref (ad 34), .ref (ad 35), .ref (ad 454), .ref (ad 459), .ref (ad 464), .ref (ad 466), .ref (ad 468), .ref (ad 470), .ref (ad 36), .ref (ad L9), .int (iZ (((n : Nat) : Int))), .int (iZ (-(tn))), .int (iZ (pv)), .int (iZ (ml)), .int (iZ (sv))]) := by rw [hg38]; exact zu_s _ _ _
    have k38_1 : G_38 (37 + 66 * ρ a) = .inr (8, [.ref (ad (38 + 66 * ρ a)), .ref (ad (39 + 66 * ρ a)), .ref (ad (96 + 66 * ρ a)), .int (iZ (pcf a))]) := (ho38 (37 + 66 * ρ a) (by omega)).trans (k31_1)
    have k38_2 : G_38 (37 + 66 * ρ b) = .inr (8, [.ref (ad (38 + 66 * ρ b)), .ref (ad (39 + 66 * ρ b)), .ref (ad (96 + 66 * ρ b)), .int (iZ (pcf b))]) := (ho38 (37 + 66 * ρ b) (by omega)).trans (k31_2)
    have k38_3 : G_38 (33) = aR cR (6) (zu (zu (fun i => some (ad (37 + 66 * ρ i))) (a) (some (ad (37 + 66 * ρ b)))) (b) (some (ad (37 + 66 * ρ a)))) := (ho38 (33) (by omega)).trans (he31)
    exact zr_vret hQ hx hb hr hlk dX2_changePlaces_41 hK hP hD hS (by omega) (by omega) (⟨G_38, rfl, by rw [if_neg hab]; exact he38, by rw [k38_3]; exact congrArg (aR cR 6) (funext fun i => by dsimp only; rw [if_neg hab]; by_cases w : i = b; (rw [w, zu_s, if_neg (Ne.symm hab), if_pos rfl]); (rw [zu_n _ _ w]; by_cases w2 : i = a; (rw [w2, zu_s, if_pos rfl]); (rw [zu_n _ _ w2, if_neg w2, if_neg w]))), fun i h1 h2 => (ho38 i h1).trans ((ho31 i h2).trans (ho24 i h2))⟩)
  · exact zr_vret hQ hx hb hr hlk dX2_changePlaces_5 hK hP hD hS (by omega) (by omega) (⟨G, rfl, by rw [hel, if_pos (by omega)], by rw [show (fun i => some (ad (37 + 66 * (fun i => if a = b then ρ i else if i = a then ρ b else if i = b then ρ a else ρ i) i))) = fun i => some (ad (37 + 66 * ρ i)) from funext (fun i => by dsimp only; rw [if_pos (by omega)])]; exact hst.1, fun _ _ _ => rfl⟩)
