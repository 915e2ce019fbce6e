
theorem pr_tp {p : Int} (h : p ≠ 0) : (0 : Int) < (p.natAbs : Int) := by omega
theorem pe_ss_b {V : Nat → Rat} {n : Nat} {f : Nat → Nat} (hT : pe_T V n) (hn : n ≤ 6) (hf : ∀ i : Nat, i < n → f i < n) {k : Nat} (hk : k ≤ n) : ((pe_ss V n f k : Nat) : Int) < bg_p 43 ∧ (0 : Int) < ((pe_ss V n f k : Nat) : Int) := by
  have h1 := pe_ss_le hT hn hf k hk
  have h2 := pe_ss_pos V n f k
  have h3 : (2147483648 ^ 7) ^ k ≤ (2147483648 ^ 7) ^ 6 := Nat.pow_le_pow_right (by decide) (by omega)
  have h4 : bg_p 43 = ((2147483648 ^ 43 : Nat) : Int) := by show (2147483648 : Int) ^ 43 = _; simp
  have h5 : (2147483648 ^ 7) ^ 6 < 2147483648 ^ 43 := by decide +kernel
  rw [h4]
  exact ⟨Int.ofNat_lt.mpr (by omega), by omega⟩
theorem id_EU {q j c i : Nat} (hj : j ≤ 6) (h1 : 40 + 66 * q + 8 * j ≤ i) (h2 : i ≤ 40 + 66 * q + 8 * j + 2) : i < 98 + 66 * c ∨ 102 + 66 * c < i := by
  rcases Nat.lt_or_ge c q with w | w
  · right; omega
  · left; omega
theorem id_EU2 {q j c : Nat} (hj : j ≤ 6) : 40 + 66 * q + 8 * j + 2 < 98 + 66 * c ∨ 98 + 66 * c + 4 < 40 + 66 * q + 8 * j := by
  rcases Nat.lt_or_ge c q with w | w
  · right; omega
  · left; omega

theorem pr_sa {sg a b : Int} (h : sg = 1 ∨ sg = -1) : ((a * b).natAbs : Int) = ((sg * a * b).natAbs : Int) := by
  rw [Int.mul_assoc, pr_nm sg (a * b)]
  rcases h with q | q <;> rw [q] <;> simp
set_option maxHeartbeats 4000000 in
set_option maxRecDepth 100000 in
/-- Elimination.findUnknowns -/
theorem p_findUnknowns (l : Launch) (D : va_G) (cI cJ cE cF cR : ClassId) (NP : Nat) (ad : Nat → Nat) (G : Nat → va_E) (r L9 n rl : Nat) (tn pv ml sv lp : Int) (E : Nat → Int) (PR : Nat → Int) (X9 : Nat → Rat) (hel : G 5 = .inr (2, [.ref (ad 6), .ref (ad 33), .ref (ad 34), .ref (ad 35), .ref (ad 454), .ref (ad 459), .ref (ad 464), .ref (ad 466), .ref (ad 468), .ref (ad 470), .ref (ad 36), .ref (ad L9), .int (iZ (((n : Nat) : Int))), .int (iZ (tn)), .int (iZ (pv)), .int (iZ (ml)), .int (iZ (sv))])) (ρ : Nat → Nat) (pcf : Nat → Int) (hst : pSt cE cF cR ad G ρ) (hrow : ∀ i9 : Nat, i9 < n → G (37 + 66 * ρ i9) = .inr (8, [.ref (ad (38 + 66 * ρ i9)), .ref (ad (39 + 66 * ρ i9)), .ref (ad (96 + 66 * ρ i9)), .int (iZ (pcf i9))])) (hA0 : pAr cI ad G) (hpr9 : G 35 = aI cI 6 PR) (hU : ∀ c8 : Nat, c8 < 6 → pFh cI ad G (98 + 66 * c8) 46) (hE : ∀ i9 : Nat, i9 < r → pEn cI ad G (40 + 66 * ρ i9 + 8 * n) 46 (E i9)) (hbE : ∀ i9 : Nat, i9 < r → ((E i9).natAbs : Int) < bg_p 43) (hL : pEn cI ad G L9 rl lp) (hLr : 33 ≤ L9 ∧ L9 + 2 < NP) (hlp0 : lp ≠ 0) (hlb : (lp.natAbs : Int) < bg_p 43) (hrl9 : rl ≤ 1000) (hLu : ∀ c8 : Nat, c8 < 6 → L9 + 2 < 98 + 66 * c8 ∨ 102 + 66 * c8 < L9) (hLn : ∀ i9 : Nat, i9 < r → L9 + 2 < 40 + 66 * ρ i9 + 8 * n ∨ 42 + 66 * ρ i9 + 8 * n < L9) (hPR : ∀ c8 : Nat, c8 < n → PR c8 = -1 ∨ (0 ≤ PR c8 ∧ PR c8 < (r : Int))) (hsv : sv = 0 ∨ sv = 1) (hX : ∀ c8 : Nat, c8 < n → sv ≠ 0 → ∀ i9 : Nat, i9 < r → PR c8 = ((i9 : Nat) : Int) → X9 c8 = (E i9 : Rat) / (lp : Rat)) (hX0 : ∀ c8 : Nat, c8 < n → (sv = 0 ∨ PR c8 < 0) → X9 c8 = 0) (hrn : r ≤ n) (hn6 : n ≤ 6) (hNP : 480 ≤ NP) : Cv l D (zty cI cJ cE cF cR) yX2_findUnknowns wsX2_findUnknowns (zRm 5 180) 0 0 [.ref (ad 5)] (pw NP ad G) (fun w1 => ∃ G1 : Nat → va_E, w1 = pw NP ad G1 ∧ pAr cI ad G1 ∧ (∀ c8 : Nat, c8 < n → pFr cI ad G1 (98 + 66 * c8) 46 (X9 c8)) ∧ (∀ i9 : Nat, i9 < 7 ∨ 32 < i9 → (∀ c8 : Nat, c8 < n → i9 < 98 + 66 * c8 ∨ 102 + 66 * c8 < i9) → G1 i9 = G i9)) := by
  unfold Cv
  refine zs (Qc := zQv D _ _) (cc := cX2_findUnknowns) (maxL := 4) (ret := none) (by decide) rfl (Nat.le_of_ble_eq_true rfl) ?_
  intro zp ze s zm below meth zc ls A args Q hQ hx hb hr hts hown hlk hml hnm hN hA hK hP hD hS hl
  have q_f_RX2_85_Elimination_n_I := hts (.fieldLink RX2 85 "LimbSolver$Elimination" "n" "I") (by decide +kernel)
  have hin2 : ∀ w ∈ wsX20, w ∈ wsX2_findUnknowns := by decide +kernel
  have q_f_RX2_26_Elimination_unknowns_LFraction := hts (.fieldLink RX2 26 "LimbSolver$Elimination" "unknowns" "[LLimbSolver$Fraction;") (by decide +kernel)
  have q_f_RX2_30_Elimination_pivotRows_I := hts (.fieldLink RX2 30 "LimbSolver$Elimination" "pivotRows" "[I") (by decide +kernel)
  have q_f_RX2_97_Elimination_solvable_Z := hts (.fieldLink RX2 97 "LimbSolver$Elimination" "solvable" "Z") (by decide +kernel)
  have q_f_RX2_12_Elimination_arithmetic_LArithmetic := hts (.fieldLink RX2 12 "LimbSolver$Elimination" "arithmetic" "LLimbSolver$Arithmetic;") (by decide +kernel)
  have q_f_RX2_20_Elimination_rows_LRow := hts (.fieldLink RX2 20 "LimbSolver$Elimination" "rows" "[LLimbSolver$Row;") (by decide +kernel)
  have hin8 : ∀ w ∈ wsX80, w ∈ wsX2_findUnknowns := by decide +kernel
  have q_f_RX2_82_Elimination_lastPivot_LEntry := hts (.fieldLink RX2 82 "LimbSolver$Elimination" "lastPivot" "LLimbSolver$Entry;") (by decide +kernel)
  have hin3 : ∀ w ∈ wsX30, w ∈ wsX2_findUnknowns := by decide +kernel
  have hl : lv_has ls 4 [(0, .ref (ad 5))] := hl
  have lp9 : ∀ (t : Nat) (c9 : Nat) (G1 : Nat → va_E) (H : Heap) (locs : List Loc) (ls : Array Slot), (c9 + t = n) → (pAr cI ad G1) → (∀ c8 : Nat, c8 < c9 → pFr cI ad G1 (98 + 66 * c8) 46 (X9 c8)) → (∀ c8 : Nat, c9 ≤ c8 → c8 < n → pFh cI ad G1 (98 + 66 * c8) 46) → (∀ i9 : Nat, i9 < 7 ∨ 32 < i9 → (∀ c8 : Nat, c8 < n → i9 < 98 + 66 * c8 ∨ 102 + 66 * c8 < i9) → G1 i9 = G i9) →  va_P D vwCl (pw NP ad G1) H → va_D A (pw NP ad G1) → va_S A s.heap H locs → lv_has ls 4 [(1, .int (iZ (((c9 : Nat) : Int)))), (0, .ref (ad 5))] → W zp l ze (zRm 5 180) s zm args below meth zc H locs 0 0 Q (F0 zm 2 ls []) := by
    intro t
    induction t with
    | zero =>
      intro c9 G1 H locs ls hct hA1 hnew hold hof hP hD hS hl
      refine lv_iload_n hx hb dX2_findUnknowns_2 rfl (lv_at hl 0 rfl) ?_
      refine lv_aload_n hx hb dX2_findUnknowns_3 rfl (lv_at hl 1 rfl) ?_
      refine va_get (D := D) (ci := 2) (v := .int (iZ (((n : Nat) : Int)))) (C := RX2) (T := TX2) (N := 17) hx hb hts hin2 hown hK hP (5) (pw_at (by omega) ((hof (5) (by omega) (fun c8 q8 => by omega)).trans (hel))) rfl 12 (by decide) q_f_RX2_85_Elimination_n_I (fun _ h9 => h9) rfl dX2_findUnknowns_4 ?_
      refine zr_icmp_ge hx hb 84 ⟨by omega, by omega⟩ ⟨by omega, by omega⟩ dX2_findUnknowns_7 (by decide) (fun h_7 => ?_) (fun h_7 => ?_)
      · exact zr_vret hQ hx hb hr hlk dX2_findUnknowns_84 hK hP hD hS (by omega) (by omega) (⟨G1, rfl, hA1, fun c8 h1 => hnew c8 (by omega), hof⟩)
      · exfalso; omega
    | succ t ih =>
      intro c9 G1 H locs ls hct hA1 hnew hold hof hP hD hS hl
      refine lv_iload_n hx hb dX2_findUnknowns_2 rfl (lv_at hl 0 rfl) ?_
      refine lv_aload_n hx hb dX2_findUnknowns_3 rfl (lv_at hl 1 rfl) ?_
      refine va_get (D := D) (ci := 2) (v := .int (iZ (((n : Nat) : Int)))) (C := RX2) (T := TX2) (N := 17) hx hb hts hin2 hown hK hP (5) (pw_at (by omega) ((hof (5) (by omega) (fun c8 q8 => by omega)).trans (hel))) rfl 12 (by decide) q_f_RX2_85_Elimination_n_I (fun _ h9 => h9) rfl dX2_findUnknowns_4 ?_
      refine zr_icmp_ge hx hb 84 ⟨by omega, by omega⟩ ⟨by omega, by omega⟩ dX2_findUnknowns_7 (by decide) (fun h_7 => ?_) (fun h_7 => ?_)
      · exfalso; omega
      · have hun := hold c9 (Nat.le_refl _) (by omega)
        obtain ⟨fs0, hfs0⟩ := id hun.1
        have hpr := hPR c9 (by omega)
        refine lv_aload_n hx hb dX2_findUnknowns_10 rfl (lv_at hl 1 rfl) ?_
        refine va_get (D := D) (ci := 2) (v := .ref (ad 34)) (C := RX2) (T := TX2) (N := 17) hx hb hts hin2 hown hK hP (5) (pw_at (by omega) ((hof (5) (by omega) (fun c8 q8 => by omega)).trans (hel))) rfl 2 (by decide) q_f_RX2_26_Elimination_unknowns_LFraction (fun _ h9 => h9) rfl dX2_findUnknowns_11 ?_
        refine lv_iload_n hx hb dX2_findUnknowns_14 rfl (lv_at hl 0 rfl) ?_
        refine zr_aald hx hb hK hP (34) 3 (pw_at (by omega) ((hof (34) (by omega) (fun c8 q8 => by omega)).trans (hst.2.1))) rfl (c9) (by omega) (by omega) (by omega) (v := ad (98 + 66 * c9)) (rfl) dX2_findUnknowns_15 ?_
        refine lv_astore_n (lv' := [(2, .ref (ad (98 + 66 * c9))), (1, .int (iZ (((c9 : Nat) : Int)))), (0, .ref (ad 5))]) hx hb dX2_findUnknowns_16 rfl hl (by decide) rfl (fun ls hl => ?_)
        refine lv_aload_n hx hb dX2_findUnknowns_17 rfl (lv_at hl 2 rfl) ?_
        refine va_get (D := D) (ci := 2) (v := .ref (ad 35)) (C := RX2) (T := TX2) (N := 17) hx hb hts hin2 hown hK hP (5) (pw_at (by omega) ((hof (5) (by omega) (fun c8 q8 => by omega)).trans (hel))) rfl 3 (by decide) q_f_RX2_30_Elimination_pivotRows_I (fun _ h9 => h9) rfl dX2_findUnknowns_18 ?_
        refine lv_iload_n hx hb dX2_findUnknowns_21 rfl (lv_at hl 1 rfl) ?_
        refine zr_iald hx hb hK hP (35) 0 (pw_at (by omega) ((hof (35) (by omega) (fun c8 q8 => by omega)).trans (hpr9))) rfl (c9) (by omega) (by omega) (by omega) dX2_findUnknowns_22 ?_
        refine lv_istore_n (lv' := [(3, .int (iZ ((PR) (c9)))), (2, .ref (ad (98 + 66 * c9))), (1, .int (iZ (((c9 : Nat) : Int)))), (0, .ref (ad 5))]) hx hb dX2_findUnknowns_23 rfl hl (by decide) rfl (fun ls hl => ?_)
        refine lv_aload_n hx hb dX2_findUnknowns_24 rfl (lv_at hl 3 rfl) ?_
        refine va_get (D := D) (ci := 2) (v := .int (iZ (sv))) (C := RX2) (T := TX2) (N := 17) hx hb hts hin2 hown hK hP (5) (pw_at (by omega) ((hof (5) (by omega) (fun c8 q8 => by omega)).trans (hel))) rfl 16 (by decide) q_f_RX2_97_Elimination_solvable_Z (fun _ h9 => h9) rfl dX2_findUnknowns_25 ?_
        refine zr_if_eq hx hb 74 ⟨by omega, by omega⟩ dX2_findUnknowns_28 (by decide) (fun h_28 => ?_) (fun h_28 => ?_)
        · refine lv_aload_n hx hb dX2_findUnknowns_74 rfl (lv_at hl 1 rfl) ?_
          refine zc_Vv (As := []) (rest := []) (wr := []) ⟨hx, hb, hml, hown, hts⟩ (p_fclear l D cI cJ cE cF cR NP ad G1 (98 + 66 * c9) 46 hun (by decide) (by decide) (by omega)) (cwV 0 hts gX2_findUnknowns_X6_clear rfl rfl rfl (by decide +kernel) ⟨Nat.le_of_ble_eq_true rfl, Nat.le_of_ble_eq_true rfl⟩) hN hK hP hD hS hA (List.range NP) [] (pw_all _ _ _) rfl (pw_nd _) rfl (fun _ h9 => nomatch h9) (q0 := 98 + 66 * c9) (ci := 6) rfl rfl (pw_at (by omega) (hfs0)) rfl hl.1 (Nat.le_of_ble_eq_true rfl) dX2_findUnknowns_75 ⟨by decide, by decide⟩ (fun w1 H locs hp hP hD hS => ?_)
          obtain ⟨G2, rfl, hc2, ho2⟩ := hp
          have hA2 : pAr cI ad G2 := hA1.keep (fun k q1 q2 => ho2 k (by omega) (by omega) (by omega) (by omega) (by omega))
          have hP : va_P D vwCl (pw NP ad G2) H := hP
          have hD : va_D A (pw NP ad G2) := hD
          refine lv_iinc (v := iZ (((c9 + 1 : Nat) : Int))) (lv' := [(1, .int (iZ (((c9 + 1 : Nat) : Int)))), (3, .int (iZ ((PR) (c9)))), (2, .ref (ad (98 + 66 * c9))), (0, .ref (ad 5))]) hx hb dX2_findUnknowns_78 hl (k := 2) rfl (by rw [show ((c9 + 1 : Nat) : Int) = ((c9 : Nat) : Int) + 1 by omega]; exact iZ_add _ _) (by decide) rfl (fun ls hl => ?_)
          refine lv_goto (tgt := 2) hx hb dX2_findUnknowns_81 (by decide) ?_
          exact ih (c9 + 1) G2 H locs ls (by omega) hA2 (fun c8 h1 => by by_cases w : c8 = c9; (subst w; exact (by rw [hX0 c8 (by omega) (by omega)]; exact hc2)); exact (hnew c8 (by omega)).keep (fun i9 q1 q2 => ho2 i9 (by omega) (by omega) (by omega) (by omega) (by omega))) (fun c8 h1 h2 => (hold c8 (by omega) h2).keep (fun i9 q1 q2 => ho2 i9 (by omega) (by omega) (by omega) (by omega) (by omega))) (fun i9 h1 h2 => (ho2 i9 (by have := h2 c9 (by omega); omega) (by have := h2 c9 (by omega); omega) (by have := h2 c9 (by omega); omega) (by have := h2 c9 (by omega); omega) (by have := h2 c9 (by omega); omega)).trans (hof i9 h1 h2)) hP hD hS (lv_sub hl [0, 3] rfl)
        · refine lv_iload_n hx hb dX2_findUnknowns_31 rfl (lv_at hl 0 rfl) ?_
          refine zr_if_lt hx hb 74 ⟨by omega, by omega⟩ dX2_findUnknowns_32 (by decide) (fun h_32 => ?_) (fun h_32 => ?_)
          · refine lv_aload_n hx hb dX2_findUnknowns_74 rfl (lv_at hl 1 rfl) ?_
            refine zc_Vv (As := []) (rest := []) (wr := []) ⟨hx, hb, hml, hown, hts⟩ (p_fclear l D cI cJ cE cF cR NP ad G1 (98 + 66 * c9) 46 hun (by decide) (by decide) (by omega)) (cwV 0 hts gX2_findUnknowns_X6_clear rfl rfl rfl (by decide +kernel) ⟨Nat.le_of_ble_eq_true rfl, Nat.le_of_ble_eq_true rfl⟩) hN hK hP hD hS hA (List.range NP) [] (pw_all _ _ _) rfl (pw_nd _) rfl (fun _ h9 => nomatch h9) (q0 := 98 + 66 * c9) (ci := 6) rfl rfl (pw_at (by omega) (hfs0)) rfl hl.1 (Nat.le_of_ble_eq_true rfl) dX2_findUnknowns_75 ⟨by decide, by decide⟩ (fun w1 H locs hp hP hD hS => ?_)
            obtain ⟨G2, rfl, hc2, ho2⟩ := hp
            have hA2 : pAr cI ad G2 := hA1.keep (fun k q1 q2 => ho2 k (by omega) (by omega) (by omega) (by omega) (by omega))
            have hP : va_P D vwCl (pw NP ad G2) H := hP
            have hD : va_D A (pw NP ad G2) := hD
            refine lv_iinc (v := iZ (((c9 + 1 : Nat) : Int))) (lv' := [(1, .int (iZ (((c9 + 1 : Nat) : Int)))), (3, .int (iZ ((PR) (c9)))), (2, .ref (ad (98 + 66 * c9))), (0, .ref (ad 5))]) hx hb dX2_findUnknowns_78 hl (k := 2) rfl (by rw [show ((c9 + 1 : Nat) : Int) = ((c9 : Nat) : Int) + 1 by omega]; exact iZ_add _ _) (by decide) rfl (fun ls hl => ?_)
            refine lv_goto (tgt := 2) hx hb dX2_findUnknowns_81 (by decide) ?_
            exact ih (c9 + 1) G2 H locs ls (by omega) hA2 (fun c8 h1 => by by_cases w : c8 = c9; (subst w; exact (by rw [hX0 c8 (by omega) (by omega)]; exact hc2)); exact (hnew c8 (by omega)).keep (fun i9 q1 q2 => ho2 i9 (by omega) (by omega) (by omega) (by omega) (by omega))) (fun c8 h1 h2 => (hold c8 (by omega) h2).keep (fun i9 q1 q2 => ho2 i9 (by omega) (by omega) (by omega) (by omega) (by omega))) (fun i9 h1 h2 => (ho2 i9 (by have := h2 c9 (by omega); omega) (by have := h2 c9 (by omega); omega) (by have := h2 c9 (by omega); omega) (by have := h2 c9 (by omega); omega) (by have := h2 c9 (by omega); omega)).trans (hof i9 h1 h2)) hP hD hS (lv_sub hl [0, 3] rfl)
          · have hpi : (PR c9).toNat < r ∧ PR c9 = (((PR c9).toNat : Nat) : Int) := by omega
            have hρi := hst.2.2.2.2.1 (PR c9).toNat (by omega)
            have hLu9 := hLu c9 (by omega)
            have hLn9 := hLn (PR c9).toNat hpi.1
            have hEi := (hE (PR c9).toNat hpi.1).keep (fun i9 q1 q2 => hof i9 (by omega) (fun c8 q8 => id_EU hn6 q1 q2))
            have hbi := hbE (PR c9).toNat hpi.1
            have hlp := hL.keep (fun i9 q1 q2 => hof i9 (by omega) (fun c8 q8 => by have := hLu c8 (by omega); omega))
            have hX1 := hX c9 (by omega) (by omega) (PR c9).toNat hpi.1 hpi.2
            refine lv_aload_n hx hb dX2_findUnknowns_35 rfl (lv_at hl 3 rfl) ?_
            refine va_get (D := D) (ci := 2) (v := .ref (ad 6)) (C := RX2) (T := TX2) (N := 17) hx hb hts hin2 hown hK hP (5) (pw_at (by omega) ((hof (5) (by omega) (fun c8 q8 => by omega)).trans (hel))) rfl 0 (by decide) q_f_RX2_12_Elimination_arithmetic_LArithmetic (fun _ h9 => h9) rfl dX2_findUnknowns_36 ?_
            refine lv_aload_n hx hb dX2_findUnknowns_39 rfl (lv_at hl 3 rfl) ?_
            refine va_get (D := D) (ci := 2) (v := .ref (ad 33)) (C := RX2) (T := TX2) (N := 17) hx hb hts hin2 hown hK hP (5) (pw_at (by omega) ((hof (5) (by omega) (fun c8 q8 => by omega)).trans (hel))) rfl 1 (by decide) q_f_RX2_20_Elimination_rows_LRow (fun _ h9 => h9) rfl dX2_findUnknowns_40 ?_
            refine lv_iload_n hx hb dX2_findUnknowns_43 rfl (lv_at hl 0 rfl) ?_
            refine zr_aald hx hb hK hP (33) 4 (pw_at (by omega) ((hof (33) (by omega) (fun c8 q8 => by omega)).trans (hst.1))) rfl ((PR c9).toNat) (by omega) (by omega) (by omega) (v := ad (37 + 66 * ρ (PR c9).toNat)) (rfl) dX2_findUnknowns_44 ?_
            refine va_getN (D := D) (ci := 8) (v := .ref (ad (38 + 66 * ρ (PR c9).toNat))) (C := RX8) (T := TX8) (N := 4) hx hb hts hin8 hown hK hP (37 + 66 * ρ (PR c9).toNat) (pw_at (by omega) ((hof (37 + 66 * ρ (PR c9).toNat) (by omega) (fun c8 q8 => by omega)).trans (hrow (PR c9).toNat (by omega)))) rfl 0 (by decide) (hN.F 16 rfl) (fun _ h9 => h9) rfl dX2_findUnknowns_45 ?_
            refine lv_aload_n hx hb dX2_findUnknowns_48 rfl (lv_at hl 3 rfl) ?_
            refine va_get (D := D) (ci := 2) (v := .int (iZ (((n : Nat) : Int)))) (C := RX2) (T := TX2) (N := 17) hx hb hts hin2 hown hK hP (5) (pw_at (by omega) ((hof (5) (by omega) (fun c8 q8 => by omega)).trans (hel))) rfl 12 (by decide) q_f_RX2_85_Elimination_n_I (fun _ h9 => h9) rfl dX2_findUnknowns_49 ?_
            refine zr_aald hx hb hK hP (38 + 66 * ρ (PR c9).toNat) 2 (pw_at (by omega) ((hof (38 + 66 * ρ (PR c9).toNat) (by omega) (fun c8 q8 => by omega)).trans (hst.2.2.2.1 (ρ (PR c9).toNat) hρi).1)) rfl (n) (by omega) (by omega) (by omega) (v := ad (40 + 66 * ρ (PR c9).toNat + 8 * n)) (rfl) dX2_findUnknowns_52 ?_
            refine lv_aload_n hx hb dX2_findUnknowns_53 rfl (lv_at hl 3 rfl) ?_
            refine va_get (D := D) (ci := 2) (v := .ref (ad L9)) (C := RX2) (T := TX2) (N := 17) hx hb hts hin2 hown hK hP (5) (pw_at (by omega) ((hof (5) (by omega) (fun c8 q8 => by omega)).trans (hel))) rfl 11 (by decide) q_f_RX2_82_Elimination_lastPivot_LEntry (fun _ h9 => h9) rfl dX2_findUnknowns_54 ?_
            refine va_getN (D := D) (ci := 3) (v := .ref (ad (L9 + 1))) (C := RX3) (T := TX3) (N := 2) hx hb hts hin3 hown hK hP (L9) (pw_at (by omega) (hlp.1)) rfl 0 (by decide) (hN.F 9 rfl) (fun _ h9 => h9) rfl dX2_findUnknowns_57 ?_
            refine lv_aload_n hx hb dX2_findUnknowns_60 rfl (lv_at hl 3 rfl) ?_
            refine va_get (D := D) (ci := 2) (v := .ref (ad L9)) (C := RX2) (T := TX2) (N := 17) hx hb hts hin2 hown hK hP (5) (pw_at (by omega) ((hof (5) (by omega) (fun c8 q8 => by omega)).trans (hel))) rfl 11 (by decide) q_f_RX2_82_Elimination_lastPivot_LEntry (fun _ h9 => h9) rfl dX2_findUnknowns_61 ?_
            refine va_getN (D := D) (ci := 3) (v := .int (iZ (lp.sign))) (C := RX3) (T := TX3) (N := 2) hx hb hts hin3 hown hK hP (L9) (pw_at (by omega) (hlp.1)) rfl 1 (by decide) (hN.F 11 rfl) (fun _ h9 => h9) rfl dX2_findUnknowns_64 ?_
            refine lv_aload_n hx hb dX2_findUnknowns_67 rfl (lv_at hl 1 rfl) ?_
            refine zc_Vv (As := [.ref (ad (40 + 66 * ρ (PR c9).toNat + 8 * n)), .ref (ad (L9 + 1)), .int (iZ (lp.sign)), .ref (ad (98 + 66 * c9))]) (rest := []) (wr := []) ⟨hx, hb, hml, hown, hts⟩ (p_reduce l D cI cJ cE cF cR NP ad G1 (40 + 66 * ρ (PR c9).toNat + 8 * n) (L9 + 1) (98 + 66 * c9) 46 rl 46 43 43 (E (PR c9).toNat) (lp.natAbs : Int) lp.sign (X9 c9) hA1 hEi hlp.2 hun (pr_s1 hlp0) (pr_tp hlp0) (by rw [pr_sv]; exact hX1) hbi hlb (by decide) (by decide) (by decide) (by decide) (by decide) hrl9 (by decide) (by omega) (id_EU2 hn6) (by omega) ⟨by omega, by omega⟩ ⟨by omega, by omega⟩ ⟨by omega, by omega⟩) (cwV 4 hts gX2_findUnknowns_X0_reduce rfl rfl rfl (by decide +kernel) ⟨Nat.le_of_ble_eq_true rfl, Nat.le_of_ble_eq_true rfl⟩) hN hK hP hD hS hA (List.range NP) [] (pw_all _ _ _) rfl (pw_nd _) rfl (fun _ h9 => nomatch h9) (q0 := 6) (ci := 0) rfl rfl (pw_at (by omega) (hA1.1)) rfl hl.1 (Nat.le_of_ble_eq_true rfl) dX2_findUnknowns_68 ⟨by decide, by decide⟩ (fun w1 H locs hp hP hD hS => ?_)
            obtain ⟨G2, rfl, hA2, hc2, ho2⟩ := hp
            have hP : va_P D vwCl (pw NP ad G2) H := hP
            have hD : va_D A (pw NP ad G2) := hD
            refine lv_goto (tgt := 78) hx hb dX2_findUnknowns_71 (by decide) ?_
            refine lv_iinc (v := iZ (((c9 + 1 : Nat) : Int))) (lv' := [(1, .int (iZ (((c9 + 1 : Nat) : Int)))), (3, .int (iZ ((PR) (c9)))), (2, .ref (ad (98 + 66 * c9))), (0, .ref (ad 5))]) hx hb dX2_findUnknowns_78 hl (k := 2) rfl (by rw [show ((c9 + 1 : Nat) : Int) = ((c9 : Nat) : Int) + 1 by omega]; exact iZ_add _ _) (by decide) rfl (fun ls hl => ?_)
            refine lv_goto (tgt := 2) hx hb dX2_findUnknowns_81 (by decide) ?_
            exact ih (c9 + 1) G2 H locs ls (by omega) hA2 (fun c8 h1 => by by_cases w : c8 = c9; (subst w; exact hc2); exact (hnew c8 (by omega)).keep (fun i9 q1 q2 => ho2 i9 (by omega) (by omega) (by omega) (by omega) (by omega) (by omega))) (fun c8 h1 h2 => (hold c8 (by omega) h2).keep (fun i9 q1 q2 => ho2 i9 (by omega) (by omega) (by omega) (by omega) (by omega) (by omega))) (fun i9 h1 h2 => (ho2 i9 (by omega) (by have := h2 c9 (by omega); omega) (by have := h2 c9 (by omega); omega) (by have := h2 c9 (by omega); omega) (by have := h2 c9 (by omega); omega) (by have := h2 c9 (by omega); omega)).trans (hof i9 h1 h2)) hP hD hS (lv_sub hl [0, 3] rfl)
  refine lv_iconst (v := iZ 0) hx hb dX2_findUnknowns_0 rfl ?_
  refine zr_eqi (((0 : Nat) : Int)) (by rfl) ?_
  refine lv_istore_n (lv' := [(1, .int (iZ (((0 : Nat) : Int)))), (0, .ref (ad 5))]) hx hb dX2_findUnknowns_1 rfl hl (by decide) rfl (fun ls hl => ?_)
  exact lp9 n 0 G s.heap [] ls (by omega) hA0 (fun c8 h1 => absurd h1 (Nat.not_lt_zero c8)) (fun c8 h1 h2 => hU c8 (by omega)) (fun i9 _ _ => rfl) hP hD hS (lv_sub hl [0, 1] rfl)

set_option maxHeartbeats 4000000 in
set_option maxRecDepth 100000 in
/-- Elimination.findVolume, no pivot missing -/
theorem p_findVolume0 (l : Launch) (D : va_G) (cI cJ cE cF cR : ClassId) (NP : Nat) (ad : Nat → Nat) (G : Nat → va_E) (r L9 n : Nat) (tn ml sv : Int) (hel : G 5 = .inr (2, [.ref (ad 6), .ref (ad 33), .ref (ad 34), .ref (ad 35), .ref (ad 454), .ref (ad 459), .ref (ad 464), .ref (ad 466), .ref (ad 468), .ref (ad 470), .ref (ad 36), .ref (ad L9), .int (iZ (((n : Nat) : Int))), .int (iZ (tn)), .int (iZ (((r : Nat) : Int))), .int (iZ (ml)), .int (iZ (sv))])) (hvo : pFh cI ad G 454 46) (hrn : r < n) (hn6 : n ≤ 6) (hNP : 480 ≤ NP) : Cv l D (zty cI cJ cE cF cR) yX2_findVolume wsX2_findVolume (zRm 2 60) 0 0 [.ref (ad 5)] (pw NP ad G) (fun w1 => ∃ G1 : Nat → va_E, w1 = pw NP ad G1 ∧ pFr cI ad G1 454 46 0 ∧ ∀ i9 : Nat, i9 < 454 ∨ 458 < i9 → G1 i9 = G i9) := by
  unfold Cv
  refine zs (Qc := zQv D _ _) (cc := cX2_findVolume) (maxL := 2) (ret := none) (by decide) rfl (Nat.le_of_ble_eq_true rfl) ?_
  intro zp ze s zm below meth zc ls A args Q hQ hx hb hr hts hown hlk hml hnm hN hA hK hP hD hS hl
  have q_f_RX2_91_Elimination_pivots_I := hts (.fieldLink RX2 91 "LimbSolver$Elimination" "pivots" "I") (by decide +kernel)
  have hin2 : ∀ w ∈ wsX20, w ∈ wsX2_findVolume := by decide +kernel
  have q_f_RX2_85_Elimination_n_I := hts (.fieldLink RX2 85 "LimbSolver$Elimination" "n" "I") (by decide +kernel)
  have q_f_RX2_47_Elimination_volume_LFraction := hts (.fieldLink RX2 47 "LimbSolver$Elimination" "volume" "LLimbSolver$Fraction;") (by decide +kernel)
  have hl : lv_has ls 2 [(0, .ref (ad 5))] := hl
  obtain ⟨fs0, hfs0⟩ := id hvo.1
  refine lv_aload_n hx hb dX2_findVolume_0 rfl (lv_at hl 0 rfl) ?_
  refine va_get (D := D) (ci := 2) (v := .int (iZ (((r : Nat) : Int)))) (C := RX2) (T := TX2) (N := 17) hx hb hts hin2 hown hK hP (5) (pw_at (by omega) (hel)) rfl 14 (by decide) q_f_RX2_91_Elimination_pivots_I (fun _ h9 => h9) rfl dX2_findVolume_1 ?_
  refine lv_aload_n hx hb dX2_findVolume_4 rfl (lv_at hl 0 rfl) ?_
  refine va_get (D := D) (ci := 2) (v := .int (iZ (((n : Nat) : Int)))) (C := RX2) (T := TX2) (N := 17) hx hb hts hin2 hown hK hP (5) (pw_at (by omega) (hel)) rfl 12 (by decide) q_f_RX2_85_Elimination_n_I (fun _ h9 => h9) rfl dX2_findVolume_5 ?_
  refine zr_icmp_ge hx hb 19 ⟨by omega, by omega⟩ ⟨by omega, by omega⟩ dX2_findVolume_8 (by decide) (fun h_8 => ?_) (fun h_8 => ?_)
  · exfalso; omega
  · refine lv_aload_n hx hb dX2_findVolume_11 rfl (lv_at hl 0 rfl) ?_
    refine va_get (D := D) (ci := 2) (v := .ref (ad 454)) (C := RX2) (T := TX2) (N := 17) hx hb hts hin2 hown hK hP (5) (pw_at (by omega) (hel)) rfl 4 (by decide) q_f_RX2_47_Elimination_volume_LFraction (fun _ h9 => h9) rfl dX2_findVolume_12 ?_
    refine zc_Vv (As := []) (rest := []) (wr := []) ⟨hx, hb, hml, hown, hts⟩ (p_fclear l D cI cJ cE cF cR NP ad G 454 46 hvo (by decide) (by decide) (by omega)) (cwV 0 hts gX2_findVolume_X6_clear rfl rfl rfl (by decide +kernel) ⟨Nat.le_of_ble_eq_true rfl, Nat.le_of_ble_eq_true rfl⟩) hN hK hP hD hS hA (List.range NP) [] (pw_all _ _ _) rfl (pw_nd _) rfl (fun _ h9 => nomatch h9) (q0 := 454) (ci := 6) rfl rfl (pw_at (by omega) (hfs0)) rfl hl.1 (Nat.le_of_ble_eq_true rfl) dX2_findVolume_15 ⟨by decide, by decide⟩ (fun w1 H locs hp hP hD hS => ?_)
    obtain ⟨G1, rfl, hc1, ho1⟩ := hp
    have hP : va_P D vwCl (pw NP ad G1) H := hP
    have hD : va_D A (pw NP ad G1) := hD
    exact zr_vret hQ hx hb hr hlk dX2_findVolume_18 hK hP hD hS (by omega) (by omega) (⟨G1, rfl, hc1, fun i9 h1 => ho1 i9 (by omega) (by omega) (by omega) (by omega) (by omega)⟩)

set_option maxHeartbeats 4000000 in
set_option maxRecDepth 100000 in
/-- Elimination.findVolume -/
theorem p_findVolume1 (l : Launch) (D : va_G) (cI cJ cE cF cR : ClassId) (NP : Nat) (ad : Nat → Nat) (G : Nat → va_E) (r L9 n rl : Nat) (tn ml sv lp : Int) (V : Nat → Rat) (f9 : Nat → Nat) (x : Rat) (hel : G 5 = .inr (2, [.ref (ad 6), .ref (ad 33), .ref (ad 34), .ref (ad 35), .ref (ad 454), .ref (ad 459), .ref (ad 464), .ref (ad 466), .ref (ad 468), .ref (ad 470), .ref (ad 36), .ref (ad L9), .int (iZ (((n : Nat) : Int))), .int (iZ (tn)), .int (iZ (((r : Nat) : Int))), .int (iZ (ml)), .int (iZ (sv))])) (ρ : Nat → Nat) (pcf : Nat → Int) (hst : pSt cE cF cR ad G ρ) (hrow : ∀ i9 : Nat, i9 < n → G (37 + 66 * ρ i9) = .inr (8, [.ref (ad (38 + 66 * ρ i9)), .ref (ad (39 + 66 * ρ i9)), .ref (ad (96 + 66 * ρ i9)), .int (iZ (pcf i9))])) (hA0 : pAr cI ad G) (hvo : pFh cI ad G 454 46) (hpl : pHas cI ad G 464 96) (hbo : pHas cI ad G 468 96) (hsc : ∀ i9 : Nat, i9 < n → pWh cI ad G (96 + 66 * ρ i9) 46 ((pe_sc V (f9 i9) (n + 1) : Nat) : Int)) (hL : pEn cI ad G L9 rl lp) (hLr : 33 ≤ L9 ∧ L9 + 2 < NP) (hlp0 : lp ≠ 0) (hlb : (lp.natAbs : Int) < bg_p 43) (hrl9 : rl ≤ 1000) (hLv : L9 + 2 < 454 ∨ 469 < L9) (hT : pe_T V n) (hf9 : ∀ i9 : Nat, i9 < n → f9 i9 < n) (htn : tn = 1 ∨ tn = -1) (hxv : x = (lp : Rat) / ((tn * ((pe_ss V n f9 n : Nat) : Int) : Int) : Rat)) (hrn : r = n) (hn6 : n ≤ 6) (hNP : 480 ≤ NP) : Cv l D (zty cI cJ cE cF cR) yX2_findVolume wsX2_findVolume (zRm 5 180) 0 0 [.ref (ad 5)] (pw NP ad G) (fun w1 => ∃ G1 : Nat → va_E, w1 = pw NP ad G1 ∧ pAr cI ad G1 ∧ pFr cI ad G1 454 46 x ∧ pHas cI ad G1 464 96 ∧ pHas cI ad G1 468 96 ∧ (∀ i9 : Nat, i9 < 7 ∨ 32 < i9 → i9 < 464 ∨ 465 < i9 → i9 < 468 ∨ 469 < i9 → i9 < 454 ∨ 458 < i9 → G1 i9 = G i9)) := by
  unfold Cv
  refine zs (Qc := zQv D _ _) (cc := cX2_findVolume) (maxL := 2) (ret := none) (by decide) rfl (Nat.le_of_ble_eq_true rfl) ?_
  intro zp ze s zm below meth zc ls A args Q hQ hx hb hr hts hown hlk hml hnm hN hA hK hP hD hS hl
  have q_f_RX2_85_Elimination_n_I := hts (.fieldLink RX2 85 "LimbSolver$Elimination" "n" "I") (by decide +kernel)
  have hin2 : ∀ w ∈ wsX20, w ∈ wsX2_findVolume := by decide +kernel
  have q_f_RX2_12_Elimination_arithmetic_LArithmetic := hts (.fieldLink RX2 12 "LimbSolver$Elimination" "arithmetic" "LLimbSolver$Arithmetic;") (by decide +kernel)
  have q_f_RX2_82_Elimination_lastPivot_LEntry := hts (.fieldLink RX2 82 "LimbSolver$Elimination" "lastPivot" "LLimbSolver$Entry;") (by decide +kernel)
  have q_f_RX2_64_Elimination_bottom_LWhole := hts (.fieldLink RX2 64 "LimbSolver$Elimination" "bottom" "LLimbSolver$Whole;") (by decide +kernel)
  have q_f_RX2_88_Elimination_turn_I := hts (.fieldLink RX2 88 "LimbSolver$Elimination" "turn" "I") (by decide +kernel)
  have q_f_RX2_47_Elimination_volume_LFraction := hts (.fieldLink RX2 47 "LimbSolver$Elimination" "volume" "LLimbSolver$Fraction;") (by decide +kernel)
  have q_f_RX2_57_Elimination_plus_LWhole := hts (.fieldLink RX2 57 "LimbSolver$Elimination" "plus" "LLimbSolver$Whole;") (by decide +kernel)
  have q_f_RX2_20_Elimination_rows_LRow := hts (.fieldLink RX2 20 "LimbSolver$Elimination" "rows" "[LLimbSolver$Row;") (by decide +kernel)
  have hin8 : ∀ w ∈ wsX80, w ∈ wsX2_findVolume := by decide +kernel
  have q_f_RX2_91_Elimination_pivots_I := hts (.fieldLink RX2 91 "LimbSolver$Elimination" "pivots" "I") (by decide +kernel)
  have hl : lv_has ls 2 [(0, .ref (ad 5))] := hl
  obtain ⟨bc0, bg0, hbc, hbg⟩ := id hbo
  have lp9 : ∀ (t : Nat) (i : Nat) (G1 : Nat → va_E) (H : Heap) (locs : List Loc) (ls : Array Slot), (i + t = n) → (pWh cI ad G1 468 96 (((pe_ss V n f9 (i) : Nat) : Int))) → (pHas cI ad G1 464 96) → (∀ i9 : Nat, i9 < 464 ∨ 465 < i9 → i9 < 468 ∨ 469 < i9 → G1 i9 = G i9) →  va_P D vwCl (pw NP ad G1) H → va_D A (pw NP ad G1) → va_S A s.heap H locs → lv_has ls 2 [(1, .int (iZ (((i : Nat) : Int)))), (0, .ref (ad 5))] → W zp l ze (zRm 5 180) s zm args below meth zc H locs 0 0 Q (F0 zm 29 ls []) := by
    intro t
    induction t with
    | zero =>
      intro i G1 H locs ls hit hb1 hp1 hof hP hD hS hl
      refine lv_iload_n hx hb dX2_findVolume_29 rfl (lv_at hl 0 rfl) ?_
      refine lv_aload_n hx hb dX2_findVolume_30 rfl (lv_at hl 1 rfl) ?_
      refine va_get (D := D) (ci := 2) (v := .int (iZ (((n : Nat) : Int)))) (C := RX2) (T := TX2) (N := 17) hx hb hts hin2 hown hK hP (5) (pw_at (by omega) ((hof (5) (by omega) (by omega)).trans hel)) rfl 12 (by decide) q_f_RX2_85_Elimination_n_I (fun _ h9 => h9) rfl dX2_findVolume_31 ?_
      refine zr_icmp_ge hx hb 74 ⟨by omega, by omega⟩ ⟨by omega, by omega⟩ dX2_findVolume_34 (by decide) (fun h_34 => ?_) (fun h_34 => ?_)
      · have hbn : pWh cI ad G1 468 96 (((pe_ss V n f9 (n) : Nat) : Int)) := by rw [← show i = n by omega]; rw [show i = n by omega] at hb1; rw [show i = n by omega]; exact hb1
        refine lv_aload_n hx hb dX2_findVolume_74 rfl (lv_at hl 1 rfl) ?_
        refine va_get (D := D) (ci := 2) (v := .ref (ad 6)) (C := RX2) (T := TX2) (N := 17) hx hb hts hin2 hown hK hP (5) (pw_at (by omega) ((hof (5) (by omega) (by omega)).trans hel)) rfl 0 (by decide) q_f_RX2_12_Elimination_arithmetic_LArithmetic (fun _ h9 => h9) rfl dX2_findVolume_75 ?_
        refine lv_aload_n hx hb dX2_findVolume_78 rfl (lv_at hl 1 rfl) ?_
        refine va_get (D := D) (ci := 2) (v := .ref (ad L9)) (C := RX2) (T := TX2) (N := 17) hx hb hts hin2 hown hK hP (5) (pw_at (by omega) ((hof (5) (by omega) (by omega)).trans hel)) rfl 11 (by decide) q_f_RX2_82_Elimination_lastPivot_LEntry (fun _ h9 => h9) rfl dX2_findVolume_79 ?_
        refine lv_aload_n hx hb dX2_findVolume_82 rfl (lv_at hl 1 rfl) ?_
        refine va_get (D := D) (ci := 2) (v := .ref (ad 468)) (C := RX2) (T := TX2) (N := 17) hx hb hts hin2 hown hK hP (5) (pw_at (by omega) ((hof (5) (by omega) (by omega)).trans hel)) rfl 8 (by decide) q_f_RX2_64_Elimination_bottom_LWhole (fun _ h9 => h9) rfl dX2_findVolume_83 ?_
        refine lv_aload_n hx hb dX2_findVolume_86 rfl (lv_at hl 1 rfl) ?_
        refine va_get (D := D) (ci := 2) (v := .int (iZ (tn))) (C := RX2) (T := TX2) (N := 17) hx hb hts hin2 hown hK hP (5) (pw_at (by omega) ((hof (5) (by omega) (by omega)).trans hel)) rfl 13 (by decide) q_f_RX2_88_Elimination_turn_I (fun _ h9 => h9) rfl dX2_findVolume_87 ?_
        refine lv_aload_n hx hb dX2_findVolume_90 rfl (lv_at hl 1 rfl) ?_
        refine va_get (D := D) (ci := 2) (v := .ref (ad 454)) (C := RX2) (T := TX2) (N := 17) hx hb hts hin2 hown hK hP (5) (pw_at (by omega) ((hof (5) (by omega) (by omega)).trans hel)) rfl 4 (by decide) q_f_RX2_47_Elimination_volume_LFraction (fun _ h9 => h9) rfl dX2_findVolume_91 ?_
        refine zc_Vv (As := [.ref (ad L9), .ref (ad 468), .int (iZ (tn)), .ref (ad 454)]) (rest := []) (wr := []) ⟨hx, hb, hml, hown, hts⟩ (p_reduce l D cI cJ cE cF cR NP ad G1 L9 468 454 rl 96 46 43 43 lp (((pe_ss V n f9 (n) : Nat) : Int)) tn x (hA0.keep (fun k q1 q2 => hof k (by omega) (by omega))) (hL.keep (fun i9 q1 q2 => hof i9 (by omega) (by omega))) hbn (hvo.keep (fun i9 q1 q2 => hof i9 (by omega) (by omega))) htn (pe_ss_b hT hn6 hf9 (Nat.le_refl n)).2 hxv hlb (pe_ss_b hT hn6 hf9 (Nat.le_refl n)).1 (by decide) (by decide) (by decide) (by decide) hrl9 (by decide) (by decide) (by omega) (by omega) (by omega) ⟨by omega, by omega⟩ ⟨by omega, by omega⟩ ⟨by omega, by omega⟩) (cwV 4 hts gX2_findVolume_X0_reduce rfl rfl rfl (by decide +kernel) ⟨Nat.le_of_ble_eq_true rfl, Nat.le_of_ble_eq_true rfl⟩) hN hK hP hD hS hA (List.range NP) [] (pw_all _ _ _) rfl (pw_nd _) rfl (fun _ h9 => nomatch h9) (q0 := 6) (ci := 0) rfl rfl (pw_at (by omega) ((hof (6) (by omega) (by omega)).trans hA0.1)) rfl hl.1 (Nat.le_of_ble_eq_true rfl) dX2_findVolume_94 ⟨by decide, by decide⟩ (fun w1 H locs hp hP hD hS => ?_)
        obtain ⟨G2, rfl, hA2, hc2, ho2⟩ := hp
        have hP : va_P D vwCl (pw NP ad G2) H := hP
        have hD : va_D A (pw NP ad G2) := hD
        exact zr_vret hQ hx hb hr hlk dX2_findVolume_97 hK hP hD hS (by omega) (by omega) (⟨G2, rfl, hA2, hc2, hp1.keep (ho2 _ (by omega) (by omega) (by omega) (by omega) (by omega) (by omega)) (ho2 _ (by omega) (by omega) (by omega) (by omega) (by omega) (by omega)), hbn.has.keep (ho2 _ (by omega) (by omega) (by omega) (by omega) (by omega) (by omega)) (ho2 _ (by omega) (by omega) (by omega) (by omega) (by omega) (by omega)), fun i9 h1 h2 h3 h4 => (ho2 i9 h1 (by omega) (by omega) (by omega) (by omega) (by omega)).trans (hof i9 h2 h3)⟩)
      · exfalso; omega
    | succ t ih =>
      intro i G1 H locs ls hit hb1 hp1 hof hP hD hS hl
      refine lv_iload_n hx hb dX2_findVolume_29 rfl (lv_at hl 0 rfl) ?_
      refine lv_aload_n hx hb dX2_findVolume_30 rfl (lv_at hl 1 rfl) ?_
      refine va_get (D := D) (ci := 2) (v := .int (iZ (((n : Nat) : Int)))) (C := RX2) (T := TX2) (N := 17) hx hb hts hin2 hown hK hP (5) (pw_at (by omega) ((hof (5) (by omega) (by omega)).trans hel)) rfl 12 (by decide) q_f_RX2_85_Elimination_n_I (fun _ h9 => h9) rfl dX2_findVolume_31 ?_
      refine zr_icmp_ge hx hb 74 ⟨by omega, by omega⟩ ⟨by omega, by omega⟩ dX2_findVolume_34 (by decide) (fun h_34 => ?_) (fun h_34 => ?_)
      · exfalso; omega
      · have hρ_i := hst.2.2.2.2.1 i (by omega)
        obtain ⟨pc0, pg0, hpc, hpg⟩ := id hp1
        obtain ⟨bc0, bg0, hbc, hbg⟩ := id hb1.has
        refine lv_aload_n hx hb dX2_findVolume_37 rfl (lv_at hl 1 rfl) ?_
        refine va_get (D := D) (ci := 2) (v := .ref (ad 464)) (C := RX2) (T := TX2) (N := 17) hx hb hts hin2 hown hK hP (5) (pw_at (by omega) ((hof (5) (by omega) (by omega)).trans hel)) rfl 6 (by decide) q_f_RX2_57_Elimination_plus_LWhole (fun _ h9 => h9) rfl dX2_findVolume_38 ?_
        refine lv_aload_n hx hb dX2_findVolume_41 rfl (lv_at hl 1 rfl) ?_
        refine va_get (D := D) (ci := 2) (v := .ref (ad 468)) (C := RX2) (T := TX2) (N := 17) hx hb hts hin2 hown hK hP (5) (pw_at (by omega) ((hof (5) (by omega) (by omega)).trans hel)) rfl 8 (by decide) q_f_RX2_64_Elimination_bottom_LWhole (fun _ h9 => h9) rfl dX2_findVolume_42 ?_
        refine lv_aload_n hx hb dX2_findVolume_45 rfl (lv_at hl 1 rfl) ?_
        refine va_get (D := D) (ci := 2) (v := .ref (ad 33)) (C := RX2) (T := TX2) (N := 17) hx hb hts hin2 hown hK hP (5) (pw_at (by omega) ((hof (5) (by omega) (by omega)).trans hel)) rfl 1 (by decide) q_f_RX2_20_Elimination_rows_LRow (fun _ h9 => h9) rfl dX2_findVolume_46 ?_
        refine lv_iload_n hx hb dX2_findVolume_49 rfl (lv_at hl 0 rfl) ?_
        refine zr_aald hx hb hK hP (33) 4 (pw_at (by omega) ((hof (33) (by omega) (by omega)).trans hst.1)) rfl (i) (by omega) (by omega) (by omega) (v := ad (37 + 66 * ρ i)) (rfl) dX2_findVolume_50 ?_
        refine va_getN (D := D) (ci := 8) (v := .ref (ad (96 + 66 * ρ i))) (C := RX8) (T := TX8) (N := 4) hx hb hts hin8 hown hK hP (37 + 66 * ρ i) (pw_at (by omega) ((hof (37 + 66 * ρ i) (by omega) (by omega)).trans (hrow i (by omega)))) rfl 2 (by decide) (hN.F 19 rfl) (fun _ h9 => h9) rfl dX2_findVolume_51 ?_
        refine zc_Vv (As := [.ref (ad 468), .ref (ad (96 + 66 * ρ i))]) (rest := []) (wr := []) ⟨hx, hb, hml, hown, hts⟩ (p_multiply l D cI cJ cE cF cR NP ad G1 464 468 (96 + 66 * ρ i) 96 96 46 43 8 (((pe_ss V n f9 (i) : Nat) : Int)) (((pe_sc V (f9 i) (n + 1) : Nat) : Int)) hp1 hb1 ((hsc i (by omega)).keep (hof (_) (by omega) (by omega)) (hof (_) (by omega) (by omega))) (pe_ss_b hT hn6 hf9 (by omega)).1 (pe_sc_b hT (hf9 i (by omega)) hn6 (Nat.le_refl _)).1 (by decide) (by decide) (by decide) (by decide) (by omega) (by omega) (by omega) ⟨by omega, by omega, by omega⟩) (cwV 2 hts gX2_findVolume_X9_multiply rfl rfl rfl (by decide +kernel) ⟨Nat.le_of_ble_eq_true rfl, Nat.le_of_ble_eq_true rfl⟩) hN hK hP hD hS hA (List.range NP) [] (pw_all _ _ _) rfl (pw_nd _) rfl (fun _ h9 => nomatch h9) (q0 := 464) (ci := 9) rfl rfl (pw_at (by omega) (hpc)) rfl hl.1 (Nat.le_of_ble_eq_true rfl) dX2_findVolume_54 ⟨by decide, by decide⟩ (fun w1 H locs hp hP hD hS => ?_)
        obtain ⟨G2, rfl, hw2, ho2⟩ := hp
        rw [← Int.natCast_mul] at hw2
        have hP : va_P D vwCl (pw NP ad G2) H := hP
        have hD : va_D A (pw NP ad G2) := hD
        have k54_0 : G2 (5) = .inr (2, [.ref (ad 6), .ref (ad 33), .ref (ad 34), .ref (ad 35), .ref (ad 454), .ref (ad 459), .ref (ad 464), .ref (ad 466), .ref (ad 468), .ref (ad 470), .ref (ad 36), .ref (ad L9), .int (iZ (((n : Nat) : Int))), .int (iZ (tn)), .int (iZ (((r : Nat) : Int))), .int (iZ (ml)), .int (iZ (sv))]) := (ho2 (5) (by omega) (by omega)).trans ((hof (5) (by omega) (by omega)).trans hel)
        have k54_1 : G2 (33) = aR cR (6) (fun i => some (ad (37 + 66 * ρ i))) := (ho2 (33) (by omega) (by omega)).trans ((hof (33) (by omega) (by omega)).trans hst.1)
        have k54_2 : G2 (37 + 66 * ρ i) = .inr (8, [.ref (ad (38 + 66 * ρ i)), .ref (ad (39 + 66 * ρ i)), .ref (ad (96 + 66 * ρ i)), .int (iZ (pcf i))]) := (ho2 (37 + 66 * ρ i) (by omega) (by omega)).trans ((hof (37 + 66 * ρ i) (by omega) (by omega)).trans (hrow i (by omega)))
        have k54_4 : G2 (468) = .inr (9, [.ref (ad (468 + 1)), .int (iZ (bc0))]) := (ho2 (468) (by omega) (by omega)).trans (hbc)
        refine lv_aload_n hx hb dX2_findVolume_57 rfl (lv_at hl 1 rfl) ?_
        refine va_get (D := D) (ci := 2) (v := .ref (ad 468)) (C := RX2) (T := TX2) (N := 17) hx hb hts hin2 hown hK hP (5) (pw_at (by omega) (k54_0)) rfl 8 (by decide) q_f_RX2_64_Elimination_bottom_LWhole (fun _ h9 => h9) rfl dX2_findVolume_58 ?_
        refine lv_aload_n hx hb dX2_findVolume_61 rfl (lv_at hl 1 rfl) ?_
        refine va_get (D := D) (ci := 2) (v := .ref (ad 464)) (C := RX2) (T := TX2) (N := 17) hx hb hts hin2 hown hK hP (5) (pw_at (by omega) (k54_0)) rfl 6 (by decide) q_f_RX2_57_Elimination_plus_LWhole (fun _ h9 => h9) rfl dX2_findVolume_62 ?_
        refine zc_Vv (As := [.ref (ad 464)]) (rest := []) (wr := []) ⟨hx, hb, hml, hown, hts⟩ (p_copyFrom l D cI cJ cE cF cR NP ad G2 468 464 96 96 43 (((pe_ss V n f9 (i + 1) : Nat) : Int)) (hb1.has.keep (ho2 _ (by omega) (by omega)) (ho2 _ (by omega) (by omega))) hw2 (pe_ss_b hT hn6 hf9 (k := i + 1) (by omega)).1 (by decide) (by decide) (by decide) (by omega) ⟨by omega, by omega⟩) (cwV 1 hts gX2_findVolume_X9_copyFrom rfl rfl rfl (by decide +kernel) ⟨Nat.le_of_ble_eq_true rfl, Nat.le_of_ble_eq_true rfl⟩) hN hK hP hD hS hA (List.range NP) [] (pw_all _ _ _) rfl (pw_nd _) rfl (fun _ h9 => nomatch h9) (q0 := 468) (ci := 9) rfl rfl (pw_at (by omega) (k54_4)) rfl hl.1 (Nat.le_of_ble_eq_true rfl) dX2_findVolume_65 ⟨by decide, by decide⟩ (fun w1 H locs hp hP hD hS => ?_)
        obtain ⟨G3, rfl, hw3, ho3⟩ := hp
        have hP : va_P D vwCl (pw NP ad G3) H := hP
        have hD : va_D A (pw NP ad G3) := hD
        refine lv_iinc (v := iZ (((i + 1 : Nat) : Int))) (lv' := [(1, .int (iZ (((i + 1 : Nat) : Int)))), (0, .ref (ad 5))]) hx hb dX2_findVolume_68 hl (k := 0) rfl (by rw [show ((i + 1 : Nat) : Int) = ((i : Nat) : Int) + 1 by omega]; exact iZ_add _ _) (by decide) rfl (fun ls hl => ?_)
        refine lv_goto (tgt := 29) hx hb dX2_findVolume_71 (by decide) ?_
        exact ih (i + 1) G3 H locs ls (by omega) hw3 (hw2.has.keep (ho3 _ (by omega) (by omega)) (ho3 _ (by omega) (by omega))) (fun i9 h2 h3 => (ho3 i9 (by omega) (by omega)).trans ((ho2 i9 (by omega) (by omega)).trans (hof i9 h2 h3))) hP hD hS (lv_sub hl [0, 1] rfl)
  refine lv_aload_n hx hb dX2_findVolume_0 rfl (lv_at hl 0 rfl) ?_
  refine va_get (D := D) (ci := 2) (v := .int (iZ (((r : Nat) : Int)))) (C := RX2) (T := TX2) (N := 17) hx hb hts hin2 hown hK hP (5) (pw_at (by omega) (hel)) rfl 14 (by decide) q_f_RX2_91_Elimination_pivots_I (fun _ h9 => h9) rfl dX2_findVolume_1 ?_
  refine lv_aload_n hx hb dX2_findVolume_4 rfl (lv_at hl 0 rfl) ?_
  refine va_get (D := D) (ci := 2) (v := .int (iZ (((n : Nat) : Int)))) (C := RX2) (T := TX2) (N := 17) hx hb hts hin2 hown hK hP (5) (pw_at (by omega) (hel)) rfl 12 (by decide) q_f_RX2_85_Elimination_n_I (fun _ h9 => h9) rfl dX2_findVolume_5 ?_
  refine zr_icmp_ge hx hb 19 ⟨by omega, by omega⟩ ⟨by omega, by omega⟩ dX2_findVolume_8 (by decide) (fun h_8 => ?_) (fun h_8 => ?_)
  · refine lv_aload_n hx hb dX2_findVolume_19 rfl (lv_at hl 0 rfl) ?_
    refine va_get (D := D) (ci := 2) (v := .ref (ad 468)) (C := RX2) (T := TX2) (N := 17) hx hb hts hin2 hown hK hP (5) (pw_at (by omega) (hel)) rfl 8 (by decide) q_f_RX2_64_Elimination_bottom_LWhole (fun _ h9 => h9) rfl dX2_findVolume_20 ?_
    refine lv_lconst (v := lZ 1) hx hb dX2_findVolume_23 rfl ?_
    refine zc_Vv (As := [.long (lZ (1))]) (rest := []) (wr := []) ⟨hx, hb, hml, hown, hts⟩ (p_assign l D cI cJ cE cF cR NP ad G 468 96 1 hbo ⟨by decide, by decide⟩ (Int.lt_of_lt_of_le (by decide : (1 : Int) < bg_p 1) (bg_p_le (by decide))) (by decide) (by omega)) (cwV 1 hts gX2_findVolume_X9_assign rfl rfl rfl (by decide +kernel) ⟨Nat.le_of_ble_eq_true rfl, Nat.le_of_ble_eq_true rfl⟩) hN hK hP hD hS hA (List.range NP) [] (pw_all _ _ _) rfl (pw_nd _) rfl (fun _ h9 => nomatch h9) (q0 := 468) (ci := 9) rfl rfl (pw_at (by omega) (hbc)) rfl hl.1 (Nat.le_of_ble_eq_true rfl) dX2_findVolume_24 ⟨by decide, by decide⟩ (fun w1 H locs hp hP hD hS => ?_)
    obtain ⟨G1, rfl, hw1, ho1⟩ := hp
    have hP : va_P D vwCl (pw NP ad G1) H := hP
    have hD : va_D A (pw NP ad G1) := hD
    refine lv_iconst (v := iZ 0) hx hb dX2_findVolume_27 rfl ?_
    refine zr_eqi (((0 : Nat) : Int)) (by rfl) ?_
    refine lv_istore_n (lv' := [(1, .int (iZ (((0 : Nat) : Int)))), (0, .ref (ad 5))]) hx hb dX2_findVolume_28 rfl hl (by decide) rfl (fun ls hl => ?_)
    exact lp9 n 0 G1 H locs ls (by omega) hw1 (hpl.keep (ho1 _ (by omega) (by omega)) (ho1 _ (by omega) (by omega))) (fun i9 h2 h3 => ho1 i9 (by omega) (by omega)) hP hD hS (lv_sub hl [0, 1] rfl)
  · exfalso; omega

set_option maxHeartbeats 4000000 in
set_option maxRecDepth 100000 in
/-- Elimination.addProduct -/
theorem p_addProduct (l : Launch) (D : va_G) (cI cJ cE cF cR : ClassId) (NP : Nat) (ad : Nat → Nat) (G : Nat → va_E) (a b ra rb m1 m2 m3 L9 n : Nat) (tn pv ml sv sg za zb vp vm : Int) (hel : G 5 = .inr (2, [.ref (ad 6), .ref (ad 33), .ref (ad 34), .ref (ad 35), .ref (ad 454), .ref (ad 459), .ref (ad 464), .ref (ad 466), .ref (ad 468), .ref (ad 470), .ref (ad 36), .ref (ad L9), .int (iZ (((n : Nat) : Int))), .int (iZ (tn)), .int (iZ (pv)), .int (iZ (ml)), .int (iZ (sv))])) (ha : pEn cI ad G a ra za) (hb9 : pEn cI ad G b rb zb) (hpl : pWh cI ad G 464 96 vp) (hmi : pWh cI ad G 466 96 vm) (hbo : pHas cI ad G 468 96) (hsg0 : sg = 1 ∨ sg = -1) (hm1 : (za.natAbs : Int) < bg_p m1) (hm2 : (zb.natAbs : Int) < bg_p m2) (hm : m1 + m2 ≤ 96) (hm3 : m3 + 1 ≤ 96) (hv1 : vp < bg_p m3) (hv2 : vm < bg_p m3) (hv3 : ((za * zb).natAbs : Int) < bg_p m3) (hra9 : ra ≤ 1000) (hrb9 : rb ≤ 1000) (hab : a + 2 < b ∨ b + 2 < a) (hla : 33 ≤ a ∧ a + 2 < NP ∧ (a + 2 < 464 ∨ 469 < a)) (hlb : 33 ≤ b ∧ b + 2 < NP ∧ (b + 2 < 464 ∨ 469 < b)) (hNP : 480 ≤ NP) : Cv l D (zty cI cJ cE cF cR) yX2_addProduct wsX2_addProduct (zRm 2 80) 0 0 [.ref (ad 5), .ref (ad a), .ref (ad b), .int (iZ (sg))] (pw NP ad G) (fun w1 => ∃ G1 : Nat → va_E, w1 = pw NP ad G1 ∧ ∃ vp1 vm1 : Int, pWh cI ad G1 464 96 vp1 ∧ pWh cI ad G1 466 96 vm1 ∧ pHas cI ad G1 468 96 ∧ vp1 - vm1 = vp - vm + sg * za * zb ∧ vp1 ≤ vp + ((za * zb).natAbs : Int) ∧ vm1 ≤ vm + ((za * zb).natAbs : Int) ∧ (∀ i9 : Nat, i9 < 464 ∨ 469 < i9 → G1 i9 = G i9)) := by
  unfold Cv
  refine zs (Qc := zQv D _ _) (cc := cX2_addProduct) (maxL := 4) (ret := none) (by decide) rfl (Nat.le_of_ble_eq_true rfl) ?_
  intro zp ze s zm below meth zc ls A args Q hQ hx hb hr hts hown hlk hml hnm hN hA hK hP hD hS hl
  have q_f_RX2_64_Elimination_bottom_LWhole := hts (.fieldLink RX2 64 "LimbSolver$Elimination" "bottom" "LLimbSolver$Whole;") (by decide +kernel)
  have hin2 : ∀ w ∈ wsX20, w ∈ wsX2_addProduct := by decide +kernel
  have hin3 : ∀ w ∈ wsX30, w ∈ wsX2_addProduct := by decide +kernel
  have q_f_RX2_61_Elimination_minus_LWhole := hts (.fieldLink RX2 61 "LimbSolver$Elimination" "minus" "LLimbSolver$Whole;") (by decide +kernel)
  have q_f_RX2_57_Elimination_plus_LWhole := hts (.fieldLink RX2 57 "LimbSolver$Elimination" "plus" "LLimbSolver$Whole;") (by decide +kernel)
  have hl : lv_has ls 4 [(0, .ref (ad 5)), (1, .ref (ad a)), (2, .ref (ad b)), (3, .int (iZ (sg)))] := hl
  obtain ⟨bc0, bg0, hbc, hbg⟩ := id hbo
  obtain ⟨pc0, pg0, hpc, hpg, _⟩ := id hpl
  obtain ⟨mc0, mg0, hmc, hmg, _⟩ := id hmi
  have hsg : sg.sign = sg := by rcases hsg0 with q | q <;> rw [q] <;> rfl
  refine lv_aload_n hx hb dX2_addProduct_0 rfl (lv_at hl 0 rfl) ?_
  refine va_get (D := D) (ci := 2) (v := .ref (ad 468)) (C := RX2) (T := TX2) (N := 17) hx hb hts hin2 hown hK hP (5) (pw_at (by omega) (hel)) rfl 8 (by decide) q_f_RX2_64_Elimination_bottom_LWhole (fun _ h9 => h9) rfl dX2_addProduct_1 ?_
  refine lv_aload_n hx hb dX2_addProduct_4 rfl (lv_at hl 1 rfl) ?_
  refine va_getN (D := D) (ci := 3) (v := .ref (ad (a + 1))) (C := RX3) (T := TX3) (N := 2) hx hb hts hin3 hown hK hP (a) (pw_at (by omega) (ha.1)) rfl 0 (by decide) (hN.F 9 rfl) (fun _ h9 => h9) rfl dX2_addProduct_5 ?_
  refine lv_aload_n hx hb dX2_addProduct_8 rfl (lv_at hl 2 rfl) ?_
  refine va_getN (D := D) (ci := 3) (v := .ref (ad (b + 1))) (C := RX3) (T := TX3) (N := 2) hx hb hts hin3 hown hK hP (b) (pw_at (by omega) (hb9.1)) rfl 0 (by decide) (hN.F 9 rfl) (fun _ h9 => h9) rfl dX2_addProduct_9 ?_
  refine zc_Vv (As := [.ref (ad (a + 1)), .ref (ad (b + 1))]) (rest := []) (wr := []) ⟨hx, hb, hml, hown, hts⟩ (p_multiply l D cI cJ cE cF cR NP ad G 468 (a + 1) (b + 1) 96 ra rb m1 m2 (za.natAbs : Int) (zb.natAbs : Int) hbo ha.2 hb9.2 hm1 hm2 hm (by decide) hra9 hrb9 (by omega) (by omega) (by omega) ⟨by omega, by omega, by omega⟩) (cwV 2 hts gX2_addProduct_X9_multiply rfl rfl rfl (by decide +kernel) ⟨Nat.le_of_ble_eq_true rfl, Nat.le_of_ble_eq_true rfl⟩) hN hK hP hD hS hA (List.range NP) [] (pw_all _ _ _) rfl (pw_nd _) rfl (fun _ h9 => nomatch h9) (q0 := 468) (ci := 9) rfl rfl (pw_at (by omega) (hbc)) rfl hl.1 (Nat.le_of_ble_eq_true rfl) dX2_addProduct_12 ⟨by decide, by decide⟩ (fun w1 H locs hp hP hD hS => ?_)
  obtain ⟨G1, rfl, hw1, ho1⟩ := hp
  rw [← pr_nm] at hw1
  have hP : va_P D vwCl (pw NP ad G1) H := hP
  have hD : va_D A (pw NP ad G1) := hD
  have k12_0 : G1 (5) = .inr (2, [.ref (ad 6), .ref (ad 33), .ref (ad 34), .ref (ad 35), .ref (ad 454), .ref (ad 459), .ref (ad 464), .ref (ad 466), .ref (ad 468), .ref (ad 470), .ref (ad 36), .ref (ad L9), .int (iZ (((n : Nat) : Int))), .int (iZ (tn)), .int (iZ (pv)), .int (iZ (ml)), .int (iZ (sv))]) := (ho1 (5) (by omega) (by omega)).trans (hel)
  have k12_2 : G1 (464) = .inr (9, [.ref (ad (464 + 1)), .int (iZ (pc0))]) := (ho1 (464) (by omega) (by omega)).trans (hpc)
  have k12_3 : G1 (466) = .inr (9, [.ref (ad (466 + 1)), .int (iZ (mc0))]) := (ho1 (466) (by omega) (by omega)).trans (hmc)
  have k12_4 : G1 (a) = .inr (3, [.ref (ad (a + 1)), .int (iZ (za.sign))]) := (ho1 (a) (by omega) (by omega)).trans (ha.1)
  have k12_5 : G1 (b) = .inr (3, [.ref (ad (b + 1)), .int (iZ (zb.sign))]) := (ho1 (b) (by omega) (by omega)).trans (hb9.1)
  refine lv_iload_n hx hb dX2_addProduct_15 rfl (lv_at hl 3 rfl) ?_
  refine lv_aload_n hx hb dX2_addProduct_16 rfl (lv_at hl 1 rfl) ?_
  refine va_getN (D := D) (ci := 3) (v := .int (iZ (za.sign))) (C := RX3) (T := TX3) (N := 2) hx hb hts hin3 hown hK hP (a) (pw_at (by omega) (k12_4)) rfl 1 (by decide) (hN.F 11 rfl) (fun _ h9 => h9) rfl dX2_addProduct_17 ?_
  refine zr_imul hx hb dX2_addProduct_20 ?_
  refine lv_aload_n hx hb dX2_addProduct_21 rfl (lv_at hl 2 rfl) ?_
  refine va_getN (D := D) (ci := 3) (v := .int (iZ (zb.sign))) (C := RX3) (T := TX3) (N := 2) hx hb hts hin3 hown hK hP (b) (pw_at (by omega) (k12_5)) rfl 1 (by decide) (hN.F 11 rfl) (fun _ h9 => h9) rfl dX2_addProduct_22 ?_
  refine zr_imul hx hb dX2_addProduct_25 ?_
  refine zr_eqi ((sg * za * zb).sign) (by rw [Int.sign_mul, Int.sign_mul, hsg]) ?_
  have hts9 := pr_sgn (sg * za * zb)
  have hna := pr_sa (sg := sg) (a := za) (b := zb) hsg0
  refine zr_if_le hx hb 43 (sg_r _) dX2_addProduct_26 (by decide) (fun h_26 => ?_) (fun h_26 => ?_)
  · refine lv_aload_n hx hb dX2_addProduct_43 rfl (lv_at hl 0 rfl) ?_
    refine va_get (D := D) (ci := 2) (v := .ref (ad 466)) (C := RX2) (T := TX2) (N := 17) hx hb hts hin2 hown hK hP (5) (pw_at (by omega) (k12_0)) rfl 7 (by decide) q_f_RX2_61_Elimination_minus_LWhole (fun _ h9 => h9) rfl dX2_addProduct_44 ?_
    refine lv_aload_n hx hb dX2_addProduct_47 rfl (lv_at hl 0 rfl) ?_
    refine va_get (D := D) (ci := 2) (v := .ref (ad 468)) (C := RX2) (T := TX2) (N := 17) hx hb hts hin2 hown hK hP (5) (pw_at (by omega) (k12_0)) rfl 8 (by decide) q_f_RX2_64_Elimination_bottom_LWhole (fun _ h9 => h9) rfl dX2_addProduct_48 ?_
    refine zc_Vv (As := [.ref (ad 468)]) (rest := []) (wr := []) ⟨hx, hb, hml, hown, hts⟩ (p_add l D cI cJ cE cF cR NP ad G1 466 468 96 96 m3 (vm) ((za * zb).natAbs : Int) (hmi.keep (ho1 _ (by omega) (by omega)) (ho1 _ (by omega) (by omega))) hw1 (by omega) (by omega) (by omega) (by decide) (by decide) (by omega) ⟨by omega, by omega⟩) (cwV 1 hts gX2_addProduct_X9_add rfl rfl rfl (by decide +kernel) ⟨Nat.le_of_ble_eq_true rfl, Nat.le_of_ble_eq_true rfl⟩) hN hK hP hD hS hA (List.range NP) [] (pw_all _ _ _) rfl (pw_nd _) rfl (fun _ h9 => nomatch h9) (q0 := 466) (ci := 9) rfl rfl (pw_at (by omega) (k12_3)) rfl hl.1 (Nat.le_of_ble_eq_true rfl) dX2_addProduct_51 ⟨by decide, by decide⟩ (fun w1 H locs hp hP hD hS => ?_)
    obtain ⟨G2, rfl, hw2, ho2⟩ := hp
    have hP : va_P D vwCl (pw NP ad G2) H := hP
    have hD : va_D A (pw NP ad G2) := hD
    exact zr_vret hQ hx hb hr hlk dX2_addProduct_54 hK hP hD hS (by omega) (by omega) (⟨G2, rfl, vp, vm + ((za * zb).natAbs : Int), (hpl.keep (ho1 _ (by omega) (by omega)) (ho1 _ (by omega) (by omega))).keep (ho2 _ (by omega) (by omega)) (ho2 _ (by omega) (by omega)), hw2, hw1.has.keep (ho2 _ (by omega) (by omega)) (ho2 _ (by omega) (by omega)), by omega, by omega, by omega, fun i9 h1 => (ho2 i9 (by omega) (by omega)).trans (ho1 i9 (by omega) (by omega))⟩)
  · refine lv_aload_n hx hb dX2_addProduct_29 rfl (lv_at hl 0 rfl) ?_
    refine va_get (D := D) (ci := 2) (v := .ref (ad 464)) (C := RX2) (T := TX2) (N := 17) hx hb hts hin2 hown hK hP (5) (pw_at (by omega) (k12_0)) rfl 6 (by decide) q_f_RX2_57_Elimination_plus_LWhole (fun _ h9 => h9) rfl dX2_addProduct_30 ?_
    refine lv_aload_n hx hb dX2_addProduct_33 rfl (lv_at hl 0 rfl) ?_
    refine va_get (D := D) (ci := 2) (v := .ref (ad 468)) (C := RX2) (T := TX2) (N := 17) hx hb hts hin2 hown hK hP (5) (pw_at (by omega) (k12_0)) rfl 8 (by decide) q_f_RX2_64_Elimination_bottom_LWhole (fun _ h9 => h9) rfl dX2_addProduct_34 ?_
    refine zc_Vv (As := [.ref (ad 468)]) (rest := []) (wr := []) ⟨hx, hb, hml, hown, hts⟩ (p_add l D cI cJ cE cF cR NP ad G1 464 468 96 96 m3 (vp) ((za * zb).natAbs : Int) (hpl.keep (ho1 _ (by omega) (by omega)) (ho1 _ (by omega) (by omega))) hw1 (by omega) (by omega) (by omega) (by decide) (by decide) (by omega) ⟨by omega, by omega⟩) (cwV 1 hts gX2_addProduct_X9_add rfl rfl rfl (by decide +kernel) ⟨Nat.le_of_ble_eq_true rfl, Nat.le_of_ble_eq_true rfl⟩) hN hK hP hD hS hA (List.range NP) [] (pw_all _ _ _) rfl (pw_nd _) rfl (fun _ h9 => nomatch h9) (q0 := 464) (ci := 9) rfl rfl (pw_at (by omega) (k12_2)) rfl hl.1 (Nat.le_of_ble_eq_true rfl) dX2_addProduct_37 ⟨by decide, by decide⟩ (fun w1 H locs hp hP hD hS => ?_)
    obtain ⟨G2, rfl, hw2, ho2⟩ := hp
    have hP : va_P D vwCl (pw NP ad G2) H := hP
    have hD : va_D A (pw NP ad G2) := hD
    refine lv_goto (tgt := 54) hx hb dX2_addProduct_40 (by decide) ?_
    exact zr_vret hQ hx hb hr hlk dX2_addProduct_54 hK hP hD hS (by omega) (by omega) (⟨G2, rfl, vp + ((za * zb).natAbs : Int), vm, hw2, (hmi.keep (ho1 _ (by omega) (by omega)) (ho1 _ (by omega) (by omega))).keep (ho2 _ (by omega) (by omega)) (ho2 _ (by omega) (by omega)), hw1.has.keep (ho2 _ (by omega) (by omega)) (ho2 _ (by omega) (by omega)), by omega, by omega, by omega, fun i9 h1 => (ho2 i9 (by omega) (by omega)).trans (ho1 i9 (by omega) (by omega))⟩)
