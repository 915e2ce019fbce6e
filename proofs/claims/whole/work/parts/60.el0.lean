
theorem pr_nm (a b : Int) : ((a * b).natAbs : Int) = (a.natAbs : Int) * (b.natAbs : Int) := by rw [Int.natAbs_mul, Int.natCast_mul]
theorem pr_ss {a b c : Int} (hc : c ≠ 0) (h : c * b = a) : a.sign * c.sign = b.sign := by
  rw [← h, Int.sign_mul]
  have h1 := pr_sgn c
  rcases h1 with ⟨_, q⟩ | ⟨q, _⟩ | ⟨_, q⟩
  · rw [q]; omega
  · exact absurd q hc
  · rw [q]; omega
theorem pr_qq {a b c : Int} (hc : c ≠ 0) (h : c * b = a) : (a.natAbs : Int) / (c.natAbs : Int) = (b.natAbs : Int) := by
  rw [← h, pr_nm]
  exact Int.mul_ediv_cancel_left _ (by omega)
theorem pr_bm {a b : Int} {m k : Nat} (h1 : (a.natAbs : Int) < bg_p m) (h2 : (b.natAbs : Int) < bg_p k) : ((a * b).natAbs : Int) < bg_p (m + k) := by
  rw [pr_nm, bg_p_add]
  have e1 : (a.natAbs : Int) * (b.natAbs : Int) ≤ bg_p m * (b.natAbs : Int) := Int.mul_le_mul_of_nonneg_right (Int.le_of_lt h1) (Int.natCast_nonneg _)
  have e2 : bg_p m * (b.natAbs : Int) < bg_p m * bg_p k := Int.mul_lt_mul_of_pos_left h2 (bg_p_pos m)
  omega
theorem pr_bs {a b : Int} {m : Nat} (h1 : (a.natAbs : Int) < bg_p m) (h2 : (b.natAbs : Int) < bg_p m) : ((a - b).natAbs : Int) < bg_p (m + 1) := by
  have := bg_p_add m 1
  rw [show bg_p 1 = 2147483648 from rfl] at this
  omega
theorem sg_r (z : Int) : iR z.sign := by rcases sg_iR z with q | q | q <;> rw [q] <;> decide
set_option maxHeartbeats 4000000 in
set_option maxRecDepth 100000 in
/-- Elimination.combineRow -/
theorem p_combineRow (l : Launch) (D : va_G) (cI cJ cE cF cR : ClassId) (NP : Nat) (ad : Nat → Nat) (G : Nat → va_E) (r t9 c9 rl : Nat) (pcr pct lp : Int) (Er Et E9 : Nat → Int) (L9 n : Nat) (tn pv ml sv : Int) (hel : G 5 = .inr (2, [.ref (ad 6), .ref (ad 33), .ref (ad 34), .ref (ad 35), .ref (ad 454), .ref (ad 459), .ref (ad 464), .ref (ad 466), .ref (ad 468), .ref (ad 470), .ref (ad 36), .ref (ad L9), .int (iZ (((n : Nat) : Int))), .int (iZ (tn)), .int (iZ (pv)), .int (iZ (ml)), .int (iZ (sv))])) (hrr : G (37 + 66 * r) = .inr (8, [.ref (ad (38 + 66 * r)), .ref (ad (39 + 66 * r)), .ref (ad (96 + 66 * r)), .int (iZ (pcr))])) (hrt : G (37 + 66 * t9) = .inr (8, [.ref (ad (38 + 66 * t9)), .ref (ad (39 + 66 * t9)), .ref (ad (96 + 66 * t9)), .int (iZ (pct))])) (har : G (38 + 66 * r) = aR cE (7) (fun j => some (ad (40 + 66 * r + 8 * j)))) (hat : G (38 + 66 * t9) = aR cE (7) (fun j => some (ad (40 + 66 * t9 + 8 * j)))) (hA0 : pAr cI ad G) (hpl0 : pHas cI ad G 464 96) (hmi0 : pHas cI ad G 466 96) (hEr : ∀ j9 : Nat, c9 ≤ j9 → j9 ≤ n → pEn cI ad G (40 + 66 * r + 8 * j9) 46 (Er j9)) (hEt : ∀ j9 : Nat, c9 ≤ j9 → j9 ≤ n → pEn cI ad G (40 + 66 * t9 + 8 * j9) 46 (Et j9)) (hL : pEn cI ad G L9 rl lp) (hLs : ∀ j9 : Nat, c9 < j9 → j9 ≤ n → L9 + 2 < 40 + 66 * r + 8 * j9 ∨ 42 + 66 * r + 8 * j9 < L9) (hLr : 33 ≤ L9 ∧ L9 + 2 < NP ∧ (L9 + 2 < 464 ∨ 467 < L9)) (hlp0 : lp ≠ 0) (hlpb : (lp.natAbs : Int) < bg_p rl) (hrl : rl ≤ 96) (hdv : ∀ j9 : Nat, c9 < j9 → j9 ≤ n → lp * E9 j9 = Et c9 * Er j9 - Er c9 * Et j9) (hbE : ∀ j9 : Nat, c9 ≤ j9 → j9 ≤ n → ((Er j9).natAbs : Int) < bg_p 43 ∧ ((Et j9).natAbs : Int) < bg_p 43) (hb9 : ∀ j9 : Nat, c9 < j9 → j9 ≤ n → ((E9 j9).natAbs : Int) < bg_p 43) (hr6 : r < 6) (ht6 : t9 < 6) (hrt9 : r ≠ t9) (hn6 : n ≤ 6) (hcn : c9 < n) (hNP : 480 ≤ NP) : Cv l D (zty cI cJ cE cF cR) yX2_combineRow wsX2_combineRow (zRm 5 170) 0 0 [.ref (ad 5), .ref (ad (37 + 66 * r)), .ref (ad (37 + 66 * t9)), .int (iZ (((c9 : Nat) : Int)))] (pw NP ad G) (fun w1 => ∃ G1 : Nat → va_E, w1 = pw NP ad G1 ∧ pAr cI ad G1 ∧ pHas cI ad G1 464 96 ∧ pHas cI ad G1 466 96 ∧ (∀ j9 : Nat, c9 < j9 → j9 ≤ n → pEn cI ad G1 (40 + 66 * r + 8 * j9) 46 (E9 j9)) ∧ (∀ i9 : Nat, i9 < 7 ∨ 32 < i9 → i9 < 464 ∨ 467 < i9 → (∀ j9 : Nat, c9 < j9 → j9 ≤ n → i9 < 40 + 66 * r + 8 * j9 ∨ 42 + 66 * r + 8 * j9 < i9) → G1 i9 = G i9)) := by
  unfold Cv
  refine zs (Qc := zQv D _ _) (cc := cX2_combineRow) (maxL := 10) (ret := none) (by decide) rfl (Nat.le_of_ble_eq_true rfl) ?_
  intro zp ze s zm below meth zc ls A args Q hQ hx hb hr hts hown hlk hml hnm hN hA hK hP hD hS hl
  have q_f_RX2_85_Elimination_n_I := hts (.fieldLink RX2 85 "LimbSolver$Elimination" "n" "I") (by decide +kernel)
  have hin2 : ∀ w ∈ wsX20, w ∈ wsX2_combineRow := by decide +kernel
  have hin8 : ∀ w ∈ wsX80, w ∈ wsX2_combineRow := by decide +kernel
  have q_f_RX2_57_Elimination_plus_LWhole := hts (.fieldLink RX2 57 "LimbSolver$Elimination" "plus" "LLimbSolver$Whole;") (by decide +kernel)
  have hin3 : ∀ w ∈ wsX30, w ∈ wsX2_combineRow := by decide +kernel
  have q_f_RX2_61_Elimination_minus_LWhole := hts (.fieldLink RX2 61 "LimbSolver$Elimination" "minus" "LLimbSolver$Whole;") (by decide +kernel)
  have q_f_RX2_12_Elimination_arithmetic_LArithmetic := hts (.fieldLink RX2 12 "LimbSolver$Elimination" "arithmetic" "LLimbSolver$Arithmetic;") (by decide +kernel)
  have q_f_RX2_82_Elimination_lastPivot_LEntry := hts (.fieldLink RX2 82 "LimbSolver$Elimination" "lastPivot" "LLimbSolver$Entry;") (by decide +kernel)
  have hl : lv_has ls 10 [(0, .ref (ad 5)), (1, .ref (ad (37 + 66 * r))), (2, .ref (ad (37 + 66 * t9))), (3, .int (iZ (((c9 : Nat) : Int))))] := hl
  have lp9 : ∀ (t : Nat) (j : Nat) (G1 : Nat → va_E) (H : Heap) (locs : List Loc) (ls : Array Slot), (j + t = n + 1) → (c9 < j) → (pAr cI ad G1) → (pHas cI ad G1 464 96) → (pHas cI ad G1 466 96) → (∀ j9 : Nat, c9 < j9 → j9 < j → pEn cI ad G1 (40 + 66 * r + 8 * j9) 46 (E9 j9)) → (∀ j9 : Nat, j ≤ j9 → j9 ≤ n → pEn cI ad G1 (40 + 66 * r + 8 * j9) 46 (Er j9)) → (∀ i9 : Nat, i9 < 7 ∨ 32 < i9 → i9 < 464 ∨ 467 < i9 → (∀ j9 : Nat, c9 < j9 → j9 ≤ n → i9 < 40 + 66 * r + 8 * j9 ∨ 42 + 66 * r + 8 * j9 < i9) → G1 i9 = G i9) →  va_P D vwCl (pw NP ad G1) H → va_D A (pw NP ad G1) → va_S A s.heap H locs → lv_has ls 10 [(6, .int (iZ (((j : Nat) : Int)))), (4, .ref (ad (40 + 66 * t9 + 8 * c9))), (5, .ref (ad (40 + 66 * r + 8 * c9))), (0, .ref (ad 5)), (1, .ref (ad (37 + 66 * r))), (2, .ref (ad (37 + 66 * t9))), (3, .int (iZ (((c9 : Nat) : Int))))] → W zp l ze (zRm 5 170) s zm args below meth zc H locs 0 0 Q (F0 zm 21 ls []) := by
    intro t
    induction t with
    | zero =>
      intro j G1 H locs ls hjt hcj hA1 hpl hmi hnew hold hof hP hD hS hl
      refine lv_iload hx hb dX2_combineRow_21 (lv_at hl 0 rfl) ?_
      refine lv_aload_n hx hb dX2_combineRow_23 rfl (lv_at hl 3 rfl) ?_
      refine va_get (D := D) (ci := 2) (v := .int (iZ (((n : Nat) : Int)))) (C := RX2) (T := TX2) (N := 17) hx hb hts hin2 hown hK hP (5) (pw_at (by omega) ((hof (5) (by omega) (by omega) (fun j9 _ _ => by omega)).trans (hel))) rfl 12 (by decide) q_f_RX2_85_Elimination_n_I (fun _ h9 => h9) rfl dX2_combineRow_24 ?_
      refine zr_icmp_gt hx hb 165 ⟨by omega, by omega⟩ ⟨by omega, by omega⟩ dX2_combineRow_27 (by decide) (fun h_27 => ?_) (fun h_27 => ?_)
      · exact zr_vret hQ hx hb hr hlk dX2_combineRow_165 hK hP hD hS (by omega) (by omega) (⟨G1, rfl, hA1, hpl, hmi, fun j9 h1 h2 => hnew j9 h1 (by omega), hof⟩)
      · exfalso; omega
    | succ t ih =>
      intro j G1 H locs ls hjt hcj hA1 hpl hmi hnew hold hof hP hD hS hl
      refine lv_iload hx hb dX2_combineRow_21 (lv_at hl 0 rfl) ?_
      refine lv_aload_n hx hb dX2_combineRow_23 rfl (lv_at hl 3 rfl) ?_
      refine va_get (D := D) (ci := 2) (v := .int (iZ (((n : Nat) : Int)))) (C := RX2) (T := TX2) (N := 17) hx hb hts hin2 hown hK hP (5) (pw_at (by omega) ((hof (5) (by omega) (by omega) (fun j9 _ _ => by omega)).trans (hel))) rfl 12 (by decide) q_f_RX2_85_Elimination_n_I (fun _ h9 => h9) rfl dX2_combineRow_24 ?_
      refine zr_icmp_gt hx hb 165 ⟨by omega, by omega⟩ ⟨by omega, by omega⟩ dX2_combineRow_27 (by decide) (fun h_27 => ?_) (fun h_27 => ?_)
      · exfalso; omega
      · have hec := (hEr c9 (Nat.le_refl _) (by omega)).keep (fun i q1 q2 => hof i (by omega) (by omega) (fun j9 _ _ => by omega))
        have hej := hold j (Nat.le_refl _) (by omega)
        have htc := (hEt c9 (Nat.le_refl _) (by omega)).keep (fun i q1 q2 => hof i (by omega) (by omega) (fun j9 _ _ => by omega))
        have htj := (hEt j (by omega) (by omega)).keep (fun i q1 q2 => hof i (by omega) (by omega) (fun j9 _ _ => by omega))
        have hlp := hL.keep (fun i q1 q2 => hof i (by omega) (by omega) (fun j9 q3 q4 => by have := hLs j9 q3 q4; omega))
        have hLj := hLs j hcj (by omega)
        have hdj := hdv j hcj (by omega)
        have hbj := hbE j (by omega) (by omega)
        have hbc := hbE c9 (Nat.le_refl _) (by omega)
        obtain ⟨pc0, pg0, hpc, hpg⟩ := id hpl
        obtain ⟨mc0, mg0, hmc, hmg⟩ := id hmi
        refine lv_aload_n hx hb dX2_combineRow_30 rfl (lv_at hl 4 rfl) ?_
        refine va_getN (D := D) (ci := 8) (v := .ref (ad (38 + 66 * r))) (C := RX8) (T := TX8) (N := 4) hx hb hts hin8 hown hK hP (37 + 66 * r) (pw_at (by omega) ((hof (37 + 66 * r) (by omega) (by omega) (fun j9 _ _ => by omega)).trans (hrr))) rfl 0 (by decide) (hN.F 16 rfl) (fun _ h9 => h9) rfl dX2_combineRow_31 ?_
        refine lv_iload hx hb dX2_combineRow_34 (lv_at hl 0 rfl) ?_
        refine zr_aald hx hb hK hP (38 + 66 * r) 2 (pw_at (by omega) ((hof (38 + 66 * r) (by omega) (by omega) (fun j9 _ _ => by omega)).trans (har))) rfl (j) (by omega) (by omega) (by omega) (v := ad (40 + 66 * r + 8 * j)) (rfl) dX2_combineRow_36 ?_
        refine lv_astore (lv' := [(7, .ref (ad (40 + 66 * r + 8 * j))), (6, .int (iZ (((j : Nat) : Int)))), (4, .ref (ad (40 + 66 * t9 + 8 * c9))), (5, .ref (ad (40 + 66 * r + 8 * c9))), (0, .ref (ad 5)), (1, .ref (ad (37 + 66 * r))), (2, .ref (ad (37 + 66 * t9))), (3, .int (iZ (((c9 : Nat) : Int))))]) hx hb dX2_combineRow_37 hl (by decide) rfl (fun ls hl => ?_)
        refine lv_aload_n hx hb dX2_combineRow_39 rfl (lv_at hl 6 rfl) ?_
        refine va_getN (D := D) (ci := 8) (v := .ref (ad (38 + 66 * t9))) (C := RX8) (T := TX8) (N := 4) hx hb hts hin8 hown hK hP (37 + 66 * t9) (pw_at (by omega) ((hof (37 + 66 * t9) (by omega) (by omega) (fun j9 _ _ => by omega)).trans (hrt))) rfl 0 (by decide) (hN.F 16 rfl) (fun _ h9 => h9) rfl dX2_combineRow_40 ?_
        refine lv_iload hx hb dX2_combineRow_43 (lv_at hl 1 rfl) ?_
        refine zr_aald hx hb hK hP (38 + 66 * t9) 2 (pw_at (by omega) ((hof (38 + 66 * t9) (by omega) (by omega) (fun j9 _ _ => by omega)).trans (hat))) rfl (j) (by omega) (by omega) (by omega) (v := ad (40 + 66 * t9 + 8 * j)) (rfl) dX2_combineRow_45 ?_
        refine lv_astore (lv' := [(8, .ref (ad (40 + 66 * t9 + 8 * j))), (7, .ref (ad (40 + 66 * r + 8 * j))), (6, .int (iZ (((j : Nat) : Int)))), (4, .ref (ad (40 + 66 * t9 + 8 * c9))), (5, .ref (ad (40 + 66 * r + 8 * c9))), (0, .ref (ad 5)), (1, .ref (ad (37 + 66 * r))), (2, .ref (ad (37 + 66 * t9))), (3, .int (iZ (((c9 : Nat) : Int))))]) hx hb dX2_combineRow_46 hl (by decide) rfl (fun ls hl => ?_)
        refine lv_aload_n hx hb dX2_combineRow_48 rfl (lv_at hl 5 rfl) ?_
        refine va_get (D := D) (ci := 2) (v := .ref (ad 464)) (C := RX2) (T := TX2) (N := 17) hx hb hts hin2 hown hK hP (5) (pw_at (by omega) ((hof (5) (by omega) (by omega) (fun j9 _ _ => by omega)).trans (hel))) rfl 6 (by decide) q_f_RX2_57_Elimination_plus_LWhole (fun _ h9 => h9) rfl dX2_combineRow_49 ?_
        refine lv_aload hx hb dX2_combineRow_52 (lv_at hl 3 rfl) ?_
        refine va_getN (D := D) (ci := 3) (v := .ref (ad (40 + 66 * t9 + 8 * c9 + 1))) (C := RX3) (T := TX3) (N := 2) hx hb hts hin3 hown hK hP (40 + 66 * t9 + 8 * c9) (pw_at (by omega) (htc.1)) rfl 0 (by decide) (hN.F 9 rfl) (fun _ h9 => h9) rfl dX2_combineRow_54 ?_
        refine lv_aload hx hb dX2_combineRow_57 (lv_at hl 1 rfl) ?_
        refine va_getN (D := D) (ci := 3) (v := .ref (ad (40 + 66 * r + 8 * j + 1))) (C := RX3) (T := TX3) (N := 2) hx hb hts hin3 hown hK hP (40 + 66 * r + 8 * j) (pw_at (by omega) (hej.1)) rfl 0 (by decide) (hN.F 9 rfl) (fun _ h9 => h9) rfl dX2_combineRow_59 ?_
        refine zc_Vv (As := [.ref (ad (40 + 66 * t9 + 8 * c9 + 1)), .ref (ad (40 + 66 * r + 8 * j + 1))]) (rest := []) (wr := []) ⟨hx, hb, hml, hown, hts⟩ (p_multiply l D cI cJ cE cF cR NP ad G1 464 (40 + 66 * t9 + 8 * c9 + 1) (40 + 66 * r + 8 * j + 1) 96 46 46 43 43 ((Et c9).natAbs : Int) ((Er j).natAbs : Int) hpl htc.2 hej.2 hbc.2 hbj.1 (by decide) (by decide) (by decide) (by decide) (by omega) (by omega) (by omega) ⟨by omega, by omega, by omega⟩) (cwV 2 hts gX2_combineRow_X9_multiply rfl rfl rfl (by decide +kernel) ⟨Nat.le_of_ble_eq_true rfl, Nat.le_of_ble_eq_true rfl⟩) hN hK hP hD hS hA (List.range NP) [] (pw_all _ _ _) rfl (pw_nd _) rfl (fun _ h9 => nomatch h9) (q0 := 464) (ci := 9) rfl rfl (pw_at (by omega) (hpc)) rfl hl.1 (Nat.le_of_ble_eq_true rfl) dX2_combineRow_62 ⟨by decide, by decide⟩ (fun w1 H locs hp hP hD hS => ?_)
        obtain ⟨G2, rfl, hw2, ho2⟩ := hp
        rw [← pr_nm] at hw2
        have hP : va_P D vwCl (pw NP ad G2) H := hP
        have hD : va_D A (pw NP ad G2) := hD
        have k62_0 : G2 (5) = .inr (2, [.ref (ad 6), .ref (ad 33), .ref (ad 34), .ref (ad 35), .ref (ad 454), .ref (ad 459), .ref (ad 464), .ref (ad 466), .ref (ad 468), .ref (ad 470), .ref (ad 36), .ref (ad L9), .int (iZ (((n : Nat) : Int))), .int (iZ (tn)), .int (iZ (pv)), .int (iZ (ml)), .int (iZ (sv))]) := (ho2 (5) (by omega) (by omega)).trans ((hof (5) (by omega) (by omega) (fun j9 _ _ => by omega)).trans (hel))
        have k62_1 : G2 (37 + 66 * r) = .inr (8, [.ref (ad (38 + 66 * r)), .ref (ad (39 + 66 * r)), .ref (ad (96 + 66 * r)), .int (iZ (pcr))]) := (ho2 (37 + 66 * r) (by omega) (by omega)).trans ((hof (37 + 66 * r) (by omega) (by omega) (fun j9 _ _ => by omega)).trans (hrr))
        have k62_2 : G2 (37 + 66 * t9) = .inr (8, [.ref (ad (38 + 66 * t9)), .ref (ad (39 + 66 * t9)), .ref (ad (96 + 66 * t9)), .int (iZ (pct))]) := (ho2 (37 + 66 * t9) (by omega) (by omega)).trans ((hof (37 + 66 * t9) (by omega) (by omega) (fun j9 _ _ => by omega)).trans (hrt))
        have k62_3 : G2 (38 + 66 * r) = aR cE (7) (fun j => some (ad (40 + 66 * r + 8 * j))) := (ho2 (38 + 66 * r) (by omega) (by omega)).trans ((hof (38 + 66 * r) (by omega) (by omega) (fun j9 _ _ => by omega)).trans (har))
        have k62_4 : G2 (38 + 66 * t9) = aR cE (7) (fun j => some (ad (40 + 66 * t9 + 8 * j))) := (ho2 (38 + 66 * t9) (by omega) (by omega)).trans ((hof (38 + 66 * t9) (by omega) (by omega) (fun j9 _ _ => by omega)).trans (hat))
        have k62_6 : G2 (466) = .inr (9, [.ref (ad (466 + 1)), .int (iZ (mc0))]) := (ho2 (466) (by omega) (by omega)).trans (hmc)
        have k62_7 : G2 (40 + 66 * r + 8 * j) = .inr (3, [.ref (ad (40 + 66 * r + 8 * j + 1)), .int (iZ ((Er j).sign))]) := (ho2 (40 + 66 * r + 8 * j) (by omega) (by omega)).trans (hej.1)
        have k62_8 : G2 (40 + 66 * t9 + 8 * j) = .inr (3, [.ref (ad (40 + 66 * t9 + 8 * j + 1)), .int (iZ ((Et j).sign))]) := (ho2 (40 + 66 * t9 + 8 * j) (by omega) (by omega)).trans (htj.1)
        have k62_9 : G2 (40 + 66 * t9 + 8 * c9) = .inr (3, [.ref (ad (40 + 66 * t9 + 8 * c9 + 1)), .int (iZ ((Et c9).sign))]) := (ho2 (40 + 66 * t9 + 8 * c9) (by omega) (by omega)).trans (htc.1)
        have k62_10 : G2 (40 + 66 * r + 8 * c9) = .inr (3, [.ref (ad (40 + 66 * r + 8 * c9 + 1)), .int (iZ ((Er c9).sign))]) := (ho2 (40 + 66 * r + 8 * c9) (by omega) (by omega)).trans (hec.1)
        have k62_11 : G2 (L9) = .inr (3, [.ref (ad (L9 + 1)), .int (iZ (lp.sign))]) := (ho2 (L9) (by omega) (by omega)).trans (hlp.1)
        have k62_12 : G2 (6) = .inr (0, [.ref (ad 7), .ref (ad 10), .ref (ad 19), .ref (ad 21), .ref (ad 23), .ref (ad 25), .ref (ad 27), .ref (ad 29), .ref (ad 31)]) := (ho2 (6) (by omega) (by omega)).trans (hA1.1)
        refine lv_aload_n hx hb dX2_combineRow_65 rfl (lv_at hl 5 rfl) ?_
        refine va_get (D := D) (ci := 2) (v := .ref (ad 466)) (C := RX2) (T := TX2) (N := 17) hx hb hts hin2 hown hK hP (5) (pw_at (by omega) (k62_0)) rfl 7 (by decide) q_f_RX2_61_Elimination_minus_LWhole (fun _ h9 => h9) rfl dX2_combineRow_66 ?_
        refine lv_aload hx hb dX2_combineRow_69 (lv_at hl 4 rfl) ?_
        refine va_getN (D := D) (ci := 3) (v := .ref (ad (40 + 66 * r + 8 * c9 + 1))) (C := RX3) (T := TX3) (N := 2) hx hb hts hin3 hown hK hP (40 + 66 * r + 8 * c9) (pw_at (by omega) (k62_10)) rfl 0 (by decide) (hN.F 9 rfl) (fun _ h9 => h9) rfl dX2_combineRow_71 ?_
        refine lv_aload hx hb dX2_combineRow_74 (lv_at hl 0 rfl) ?_
        refine va_getN (D := D) (ci := 3) (v := .ref (ad (40 + 66 * t9 + 8 * j + 1))) (C := RX3) (T := TX3) (N := 2) hx hb hts hin3 hown hK hP (40 + 66 * t9 + 8 * j) (pw_at (by omega) (k62_8)) rfl 0 (by decide) (hN.F 9 rfl) (fun _ h9 => h9) rfl dX2_combineRow_76 ?_
        refine zc_Vv (As := [.ref (ad (40 + 66 * r + 8 * c9 + 1)), .ref (ad (40 + 66 * t9 + 8 * j + 1))]) (rest := []) (wr := []) ⟨hx, hb, hml, hown, hts⟩ (p_multiply l D cI cJ cE cF cR NP ad G2 466 (40 + 66 * r + 8 * c9 + 1) (40 + 66 * t9 + 8 * j + 1) 96 46 46 43 43 ((Er c9).natAbs : Int) ((Et j).natAbs : Int) (hmi.keep (ho2 _ (by omega) (by omega)) (ho2 _ (by omega) (by omega))) (hec.keep (fun i q1 q2 => ho2 i (by omega) (by omega))).2 (htj.keep (fun i q1 q2 => ho2 i (by omega) (by omega))).2 hbc.1 hbj.2 (by decide) (by decide) (by decide) (by decide) (by omega) (by omega) (by omega) ⟨by omega, by omega, by omega⟩) (cwV 2 hts gX2_combineRow_X9_multiply rfl rfl rfl (by decide +kernel) ⟨Nat.le_of_ble_eq_true rfl, Nat.le_of_ble_eq_true rfl⟩) hN hK hP hD hS hA (List.range NP) [] (pw_all _ _ _) rfl (pw_nd _) rfl (fun _ h9 => nomatch h9) (q0 := 466) (ci := 9) rfl rfl (pw_at (by omega) (k62_6)) rfl hl.1 (Nat.le_of_ble_eq_true rfl) dX2_combineRow_79 ⟨by decide, by decide⟩ (fun w1 H locs hp hP hD hS => ?_)
        obtain ⟨G3, rfl, hw3, ho3⟩ := hp
        rw [← pr_nm] at hw3
        have hP : va_P D vwCl (pw NP ad G3) H := hP
        have hD : va_D A (pw NP ad G3) := hD
        have k79_0 : G3 (5) = .inr (2, [.ref (ad 6), .ref (ad 33), .ref (ad 34), .ref (ad 35), .ref (ad 454), .ref (ad 459), .ref (ad 464), .ref (ad 466), .ref (ad 468), .ref (ad 470), .ref (ad 36), .ref (ad L9), .int (iZ (((n : Nat) : Int))), .int (iZ (tn)), .int (iZ (pv)), .int (iZ (ml)), .int (iZ (sv))]) := (ho3 (5) (by omega) (by omega)).trans (k62_0)
        have k79_1 : G3 (37 + 66 * r) = .inr (8, [.ref (ad (38 + 66 * r)), .ref (ad (39 + 66 * r)), .ref (ad (96 + 66 * r)), .int (iZ (pcr))]) := (ho3 (37 + 66 * r) (by omega) (by omega)).trans (k62_1)
        have k79_2 : G3 (37 + 66 * t9) = .inr (8, [.ref (ad (38 + 66 * t9)), .ref (ad (39 + 66 * t9)), .ref (ad (96 + 66 * t9)), .int (iZ (pct))]) := (ho3 (37 + 66 * t9) (by omega) (by omega)).trans (k62_2)
        have k79_3 : G3 (38 + 66 * r) = aR cE (7) (fun j => some (ad (40 + 66 * r + 8 * j))) := (ho3 (38 + 66 * r) (by omega) (by omega)).trans (k62_3)
        have k79_4 : G3 (38 + 66 * t9) = aR cE (7) (fun j => some (ad (40 + 66 * t9 + 8 * j))) := (ho3 (38 + 66 * t9) (by omega) (by omega)).trans (k62_4)
        have k79_6 : G3 (40 + 66 * r + 8 * j) = .inr (3, [.ref (ad (40 + 66 * r + 8 * j + 1)), .int (iZ ((Er j).sign))]) := (ho3 (40 + 66 * r + 8 * j) (by omega) (by omega)).trans (k62_7)
        have k79_7 : G3 (40 + 66 * t9 + 8 * j) = .inr (3, [.ref (ad (40 + 66 * t9 + 8 * j + 1)), .int (iZ ((Et j).sign))]) := (ho3 (40 + 66 * t9 + 8 * j) (by omega) (by omega)).trans (k62_8)
        have k79_8 : G3 (40 + 66 * t9 + 8 * c9) = .inr (3, [.ref (ad (40 + 66 * t9 + 8 * c9 + 1)), .int (iZ ((Et c9).sign))]) := (ho3 (40 + 66 * t9 + 8 * c9) (by omega) (by omega)).trans (k62_9)
        have k79_9 : G3 (40 + 66 * r + 8 * c9) = .inr (3, [.ref (ad (40 + 66 * r + 8 * c9 + 1)), .int (iZ ((Er c9).sign))]) := (ho3 (40 + 66 * r + 8 * c9) (by omega) (by omega)).trans (k62_10)
        have k79_10 : G3 (L9) = .inr (3, [.ref (ad (L9 + 1)), .int (iZ (lp.sign))]) := (ho3 (L9) (by omega) (by omega)).trans (k62_11)
        have k79_11 : G3 (6) = .inr (0, [.ref (ad 7), .ref (ad 10), .ref (ad 19), .ref (ad 21), .ref (ad 23), .ref (ad 25), .ref (ad 27), .ref (ad 29), .ref (ad 31)]) := (ho3 (6) (by omega) (by omega)).trans (k62_12)
        refine lv_aload_n hx hb dX2_combineRow_82 rfl (lv_at hl 5 rfl) ?_
        refine va_get (D := D) (ci := 2) (v := .ref (ad 6)) (C := RX2) (T := TX2) (N := 17) hx hb hts hin2 hown hK hP (5) (pw_at (by omega) (k79_0)) rfl 0 (by decide) q_f_RX2_12_Elimination_arithmetic_LArithmetic (fun _ h9 => h9) rfl dX2_combineRow_83 ?_
        refine lv_aload hx hb dX2_combineRow_86 (lv_at hl 3 rfl) ?_
        refine va_getN (D := D) (ci := 3) (v := .int (iZ ((Et c9).sign))) (C := RX3) (T := TX3) (N := 2) hx hb hts hin3 hown hK hP (40 + 66 * t9 + 8 * c9) (pw_at (by omega) (k79_8)) rfl 1 (by decide) (hN.F 11 rfl) (fun _ h9 => h9) rfl dX2_combineRow_88 ?_
        refine lv_aload hx hb dX2_combineRow_91 (lv_at hl 1 rfl) ?_
        refine va_getN (D := D) (ci := 3) (v := .int (iZ ((Er j).sign))) (C := RX3) (T := TX3) (N := 2) hx hb hts hin3 hown hK hP (40 + 66 * r + 8 * j) (pw_at (by omega) (k79_6)) rfl 1 (by decide) (hN.F 11 rfl) (fun _ h9 => h9) rfl dX2_combineRow_93 ?_
        refine zr_imul hx hb dX2_combineRow_96 ?_
        refine zr_eqi ((Et c9 * Er j).sign) (by rw [Int.sign_mul]) ?_
        refine lv_aload_n hx hb dX2_combineRow_97 rfl (lv_at hl 5 rfl) ?_
        refine va_get (D := D) (ci := 2) (v := .ref (ad 464)) (C := RX2) (T := TX2) (N := 17) hx hb hts hin2 hown hK hP (5) (pw_at (by omega) (k79_0)) rfl 6 (by decide) q_f_RX2_57_Elimination_plus_LWhole (fun _ h9 => h9) rfl dX2_combineRow_98 ?_
        refine lv_aload hx hb dX2_combineRow_101 (lv_at hl 4 rfl) ?_
        refine va_getN (D := D) (ci := 3) (v := .int (iZ ((Er c9).sign))) (C := RX3) (T := TX3) (N := 2) hx hb hts hin3 hown hK hP (40 + 66 * r + 8 * c9) (pw_at (by omega) (k79_9)) rfl 1 (by decide) (hN.F 11 rfl) (fun _ h9 => h9) rfl dX2_combineRow_103 ?_
        refine lv_aload hx hb dX2_combineRow_106 (lv_at hl 0 rfl) ?_
        refine va_getN (D := D) (ci := 3) (v := .int (iZ ((Et j).sign))) (C := RX3) (T := TX3) (N := 2) hx hb hts hin3 hown hK hP (40 + 66 * t9 + 8 * j) (pw_at (by omega) (k79_7)) rfl 1 (by decide) (hN.F 11 rfl) (fun _ h9 => h9) rfl dX2_combineRow_108 ?_
        refine zr_imul hx hb dX2_combineRow_111 ?_
        refine zr_eqi ((Er c9 * Et j).sign) (by rw [Int.sign_mul]) ?_
        refine lv_aload_n hx hb dX2_combineRow_112 rfl (lv_at hl 5 rfl) ?_
        refine va_get (D := D) (ci := 2) (v := .ref (ad 466)) (C := RX2) (T := TX2) (N := 17) hx hb hts hin2 hown hK hP (5) (pw_at (by omega) (k79_0)) rfl 7 (by decide) q_f_RX2_61_Elimination_minus_LWhole (fun _ h9 => h9) rfl dX2_combineRow_113 ?_
        refine zc_Vi (As := [.int (iZ ((Et c9 * Er j).sign)), .ref (ad 464), .int (iZ ((Er c9 * Et j).sign)), .ref (ad 466)]) (rest := []) (wr := []) ⟨hx, hb, hml, hown, hts⟩ (p_takeAway l D cI cJ cE cF cR NP ad G3 464 466 96 96 86 (Et c9 * Er j) (Er c9 * Et j) (hw2.keep (ho3 _ (by omega) (by omega)) (ho3 _ (by omega) (by omega))) hw3 (pr_bm (m := 43) (k := 43) hbc.2 hbj.1) (pr_bm (m := 43) (k := 43) hbc.1 hbj.2) (by decide) (by decide) (by decide) (by omega) (by omega) (by omega)) (cwV 4 hts gX2_combineRow_X0_takeAway rfl rfl rfl (by decide +kernel) ⟨Nat.le_of_ble_eq_true rfl, Nat.le_of_ble_eq_true rfl⟩) hN hK hP hD hS hA (List.range NP) [] (pw_all _ _ _) rfl (pw_nd _) rfl (fun _ h9 => nomatch h9) (q0 := 6) (ci := 0) rfl rfl (pw_at (by omega) (k79_11)) rfl hl.1 (Nat.le_of_ble_eq_true rfl) dX2_combineRow_116 ⟨by decide, by decide⟩ (fun sg9 w1 H locs hz116 hp hP hD hS => ?_)
        obtain ⟨G4, rfl, hsg, hw4, hm4, ho4⟩ := hp
        have hP : va_P D vwCl (pw NP ad G4) H := hP
        have hD : va_D A (pw NP ad G4) := hD
        have k116_0 : G4 (5) = .inr (2, [.ref (ad 6), .ref (ad 33), .ref (ad 34), .ref (ad 35), .ref (ad 454), .ref (ad 459), .ref (ad 464), .ref (ad 466), .ref (ad 468), .ref (ad 470), .ref (ad 36), .ref (ad L9), .int (iZ (((n : Nat) : Int))), .int (iZ (tn)), .int (iZ (pv)), .int (iZ (ml)), .int (iZ (sv))]) := (ho4 (5) (by omega) (by omega) (by omega) (by omega)).trans (k79_0)
        have k116_1 : G4 (37 + 66 * r) = .inr (8, [.ref (ad (38 + 66 * r)), .ref (ad (39 + 66 * r)), .ref (ad (96 + 66 * r)), .int (iZ (pcr))]) := (ho4 (37 + 66 * r) (by omega) (by omega) (by omega) (by omega)).trans (k79_1)
        have k116_2 : G4 (37 + 66 * t9) = .inr (8, [.ref (ad (38 + 66 * t9)), .ref (ad (39 + 66 * t9)), .ref (ad (96 + 66 * t9)), .int (iZ (pct))]) := (ho4 (37 + 66 * t9) (by omega) (by omega) (by omega) (by omega)).trans (k79_2)
        have k116_3 : G4 (38 + 66 * r) = aR cE (7) (fun j => some (ad (40 + 66 * r + 8 * j))) := (ho4 (38 + 66 * r) (by omega) (by omega) (by omega) (by omega)).trans (k79_3)
        have k116_4 : G4 (38 + 66 * t9) = aR cE (7) (fun j => some (ad (40 + 66 * t9 + 8 * j))) := (ho4 (38 + 66 * t9) (by omega) (by omega) (by omega) (by omega)).trans (k79_4)
        have k116_5 : G4 (40 + 66 * r + 8 * j) = .inr (3, [.ref (ad (40 + 66 * r + 8 * j + 1)), .int (iZ ((Er j).sign))]) := (ho4 (40 + 66 * r + 8 * j) (by omega) (by omega) (by omega) (by omega)).trans (k79_6)
        have k116_6 : G4 (40 + 66 * t9 + 8 * j) = .inr (3, [.ref (ad (40 + 66 * t9 + 8 * j + 1)), .int (iZ ((Et j).sign))]) := (ho4 (40 + 66 * t9 + 8 * j) (by omega) (by omega) (by omega) (by omega)).trans (k79_7)
        have k116_7 : G4 (40 + 66 * t9 + 8 * c9) = .inr (3, [.ref (ad (40 + 66 * t9 + 8 * c9 + 1)), .int (iZ ((Et c9).sign))]) := (ho4 (40 + 66 * t9 + 8 * c9) (by omega) (by omega) (by omega) (by omega)).trans (k79_8)
        have k116_8 : G4 (40 + 66 * r + 8 * c9) = .inr (3, [.ref (ad (40 + 66 * r + 8 * c9 + 1)), .int (iZ ((Er c9).sign))]) := (ho4 (40 + 66 * r + 8 * c9) (by omega) (by omega) (by omega) (by omega)).trans (k79_9)
        have k116_9 : G4 (L9) = .inr (3, [.ref (ad (L9 + 1)), .int (iZ (lp.sign))]) := (ho4 (L9) (by omega) (by omega) (by omega) (by omega)).trans (k79_10)
        have k116_10 : G4 (6) = .inr (0, [.ref (ad 7), .ref (ad 10), .ref (ad 19), .ref (ad 21), .ref (ad 23), .ref (ad 25), .ref (ad 27), .ref (ad 29), .ref (ad 31)]) := (ho4 (6) (by omega) (by omega) (by omega) (by omega)).trans (k79_11)
        refine lv_istore (lv' := [(9, .int (iZ (sg9))), (8, .ref (ad (40 + 66 * t9 + 8 * j))), (7, .ref (ad (40 + 66 * r + 8 * j))), (6, .int (iZ (((j : Nat) : Int)))), (4, .ref (ad (40 + 66 * t9 + 8 * c9))), (5, .ref (ad (40 + 66 * r + 8 * c9))), (0, .ref (ad 5)), (1, .ref (ad (37 + 66 * r))), (2, .ref (ad (37 + 66 * t9))), (3, .int (iZ (((c9 : Nat) : Int))))]) hx hb dX2_combineRow_119 hl (by decide) rfl (fun ls hl => ?_)
        refine lv_aload_n hx hb dX2_combineRow_121 rfl (lv_at hl 6 rfl) ?_
        refine va_get (D := D) (ci := 2) (v := .ref (ad 6)) (C := RX2) (T := TX2) (N := 17) hx hb hts hin2 hown hK hP (5) (pw_at (by omega) (k116_0)) rfl 0 (by decide) q_f_RX2_12_Elimination_arithmetic_LArithmetic (fun _ h9 => h9) rfl dX2_combineRow_122 ?_
        refine lv_aload_n hx hb dX2_combineRow_125 rfl (lv_at hl 6 rfl) ?_
        refine va_get (D := D) (ci := 2) (v := .ref (ad 464)) (C := RX2) (T := TX2) (N := 17) hx hb hts hin2 hown hK hP (5) (pw_at (by omega) (k116_0)) rfl 6 (by decide) q_f_RX2_57_Elimination_plus_LWhole (fun _ h9 => h9) rfl dX2_combineRow_126 ?_
        refine lv_aload_n hx hb dX2_combineRow_129 rfl (lv_at hl 6 rfl) ?_
        refine va_get (D := D) (ci := 2) (v := .ref (ad L9)) (C := RX2) (T := TX2) (N := 17) hx hb hts hin2 hown hK hP (5) (pw_at (by omega) (k116_0)) rfl 11 (by decide) q_f_RX2_82_Elimination_lastPivot_LEntry (fun _ h9 => h9) rfl dX2_combineRow_130 ?_
        refine va_getN (D := D) (ci := 3) (v := .ref (ad (L9 + 1))) (C := RX3) (T := TX3) (N := 2) hx hb hts hin3 hown hK hP (L9) (pw_at (by omega) (k116_9)) rfl 0 (by decide) (hN.F 9 rfl) (fun _ h9 => h9) rfl dX2_combineRow_133 ?_
        refine lv_aload hx hb dX2_combineRow_136 (lv_at hl 2 rfl) ?_
        refine va_getN (D := D) (ci := 3) (v := .ref (ad (40 + 66 * r + 8 * j + 1))) (C := RX3) (T := TX3) (N := 2) hx hb hts hin3 hown hK hP (40 + 66 * r + 8 * j) (pw_at (by omega) (k116_5)) rfl 0 (by decide) (hN.F 9 rfl) (fun _ h9 => h9) rfl dX2_combineRow_138 ?_
        refine zc_Vv (As := [.ref (ad 464), .ref (ad (L9 + 1)), .ref (ad (40 + 66 * r + 8 * j + 1))]) (rest := []) (wr := []) ⟨hx, hb, hml, hown, hts⟩ (p_divideExactly l D cI cJ cE cF cR NP ad G4 464 (L9 + 1) (40 + 66 * r + 8 * j + 1) 96 rl 46 87 rl 43 ((Et c9 * Er j - Er c9 * Et j).natAbs : Int) (lp.natAbs : Int) (hA1.keep (fun i q1 q2 => (ho4 i (by omega) (by omega) (by omega) (by omega)).trans ((ho3 i (by omega) (by omega)).trans (ho2 i (by omega) (by omega))))) hw4 (hlp.keep (fun i q1 q2 => (ho4 i (by omega) (by omega) (by omega) (by omega)).trans ((ho3 i (by omega) (by omega)).trans (ho2 i (by omega) (by omega))))).2 (hej.keep (fun i q1 q2 => (ho4 i (by omega) (by omega) (by omega) (by omega)).trans ((ho3 i (by omega) (by omega)).trans (ho2 i (by omega) (by omega))))).2.has (by omega) (pr_bs (m := 86) (pr_bm (m := 43) (k := 43) hbc.2 hbj.1) (pr_bm (m := 43) (k := 43) hbc.1 hbj.2)) hlpb (by decide) hrl (by rw [pr_qq hlp0 hdj]; exact hb9 j hcj (by omega)) (by decide) (by decide) (by omega) (by decide) (by omega) (by omega) (by omega) (by omega) (by omega) (by omega) (by omega) (by omega) (by omega)) (cwV 3 hts gX2_combineRow_X0_divideExactly rfl rfl rfl (by decide +kernel) ⟨Nat.le_of_ble_eq_true rfl, Nat.le_of_ble_eq_true rfl⟩) hN hK hP hD hS hA (List.range NP) [] (pw_all _ _ _) rfl (pw_nd _) rfl (fun _ h9 => nomatch h9) (q0 := 6) (ci := 0) rfl rfl (pw_at (by omega) (k116_10)) rfl hl.1 (Nat.le_of_ble_eq_true rfl) dX2_combineRow_141 ⟨by decide, by decide⟩ (fun w1 H locs hp hP hD hS => ?_)
        obtain ⟨G5, rfl, hA5, hw5, ho5⟩ := hp
        rw [pr_qq hlp0 hdj] at hw5
        have hP : va_P D vwCl (pw NP ad G5) H := hP
        have hD : va_D A (pw NP ad G5) := hD
        have k141_0 : G5 (5) = .inr (2, [.ref (ad 6), .ref (ad 33), .ref (ad 34), .ref (ad 35), .ref (ad 454), .ref (ad 459), .ref (ad 464), .ref (ad 466), .ref (ad 468), .ref (ad 470), .ref (ad 36), .ref (ad L9), .int (iZ (((n : Nat) : Int))), .int (iZ (tn)), .int (iZ (pv)), .int (iZ (ml)), .int (iZ (sv))]) := (ho5 (5) (by omega) (by omega) (by omega)).trans (k116_0)
        have k141_1 : G5 (37 + 66 * r) = .inr (8, [.ref (ad (38 + 66 * r)), .ref (ad (39 + 66 * r)), .ref (ad (96 + 66 * r)), .int (iZ (pcr))]) := (ho5 (37 + 66 * r) (by omega) (by omega) (by omega)).trans (k116_1)
        have k141_2 : G5 (37 + 66 * t9) = .inr (8, [.ref (ad (38 + 66 * t9)), .ref (ad (39 + 66 * t9)), .ref (ad (96 + 66 * t9)), .int (iZ (pct))]) := (ho5 (37 + 66 * t9) (by omega) (by omega) (by omega)).trans (k116_2)
        have k141_3 : G5 (38 + 66 * r) = aR cE (7) (fun j => some (ad (40 + 66 * r + 8 * j))) := (ho5 (38 + 66 * r) (by omega) (by omega) (by omega)).trans (k116_3)
        have k141_4 : G5 (38 + 66 * t9) = aR cE (7) (fun j => some (ad (40 + 66 * t9 + 8 * j))) := (ho5 (38 + 66 * t9) (by omega) (by omega) (by omega)).trans (k116_4)
        have k141_5 : G5 (40 + 66 * r + 8 * j) = .inr (3, [.ref (ad (40 + 66 * r + 8 * j + 1)), .int (iZ ((Er j).sign))]) := (ho5 (40 + 66 * r + 8 * j) (by omega) (by omega) (by omega)).trans (k116_5)
        have k141_6 : G5 (40 + 66 * t9 + 8 * j) = .inr (3, [.ref (ad (40 + 66 * t9 + 8 * j + 1)), .int (iZ ((Et j).sign))]) := (ho5 (40 + 66 * t9 + 8 * j) (by omega) (by omega) (by omega)).trans (k116_6)
        have k141_7 : G5 (40 + 66 * t9 + 8 * c9) = .inr (3, [.ref (ad (40 + 66 * t9 + 8 * c9 + 1)), .int (iZ ((Et c9).sign))]) := (ho5 (40 + 66 * t9 + 8 * c9) (by omega) (by omega) (by omega)).trans (k116_7)
        have k141_8 : G5 (40 + 66 * r + 8 * c9) = .inr (3, [.ref (ad (40 + 66 * r + 8 * c9 + 1)), .int (iZ ((Er c9).sign))]) := (ho5 (40 + 66 * r + 8 * c9) (by omega) (by omega) (by omega)).trans (k116_8)
        have k141_9 : G5 (L9) = .inr (3, [.ref (ad (L9 + 1)), .int (iZ (lp.sign))]) := (ho5 (L9) (by omega) (by omega) (by omega)).trans (k116_9)
        have k141_10 : G5 (6) = .inr (0, [.ref (ad 7), .ref (ad 10), .ref (ad 19), .ref (ad 21), .ref (ad 23), .ref (ad 25), .ref (ad 27), .ref (ad 29), .ref (ad 31)]) := (ho5 (6) (by omega) (by omega) (by omega)).trans (k116_10)
        refine lv_aload hx hb dX2_combineRow_144 (lv_at hl 2 rfl) ?_
        refine lv_iload hx hb dX2_combineRow_146 (lv_at hl 0 rfl) ?_
        refine lv_aload_n hx hb dX2_combineRow_148 rfl (lv_at hl 6 rfl) ?_
        refine va_get (D := D) (ci := 2) (v := .ref (ad L9)) (C := RX2) (T := TX2) (N := 17) hx hb hts hin2 hown hK hP (5) (pw_at (by omega) (k141_0)) rfl 11 (by decide) q_f_RX2_82_Elimination_lastPivot_LEntry (fun _ h9 => h9) rfl dX2_combineRow_149 ?_
        refine va_getN (D := D) (ci := 3) (v := .int (iZ (lp.sign))) (C := RX3) (T := TX3) (N := 2) hx hb hts hin3 hown hK hP (L9) (pw_at (by omega) (k141_9)) rfl 1 (by decide) (hN.F 11 rfl) (fun _ h9 => h9) rfl dX2_combineRow_152 ?_
        refine zr_imul hx hb dX2_combineRow_155 ?_
        refine zr_eqi ((E9 j).sign) (by rw [hsg]; exact pr_ss hlp0 hdj) ?_
        refine va_putN (D := D) (ci := 3) (v := .int (iZ ((E9 j).sign))) (ty := tyX3 1) (C := RX3) (T := TX3) (N := 2) hx hb hts hin3 tyX3 tyX3_ok nmX3 hown hK hP hD hS (40 + 66 * r + 8 * j) (pw_at (by omega) (k141_5)) rfl 1 (by decide) (hN.F 11 rfl) (fun _ h9 => h9) rfl (tyX3_ok 1 (by decide)) rfl rfl (Nat.le_of_ble_eq_true rfl) dX2_combineRow_156 (fun H locs hP hD hS => ?_)
        rw [pw_set] at hP hD
        obtain ⟨G_156, hg156⟩ : ∃ g : Nat → va_E, g = zu G5 (40 + 66 * r + 8 * j) (.inr (3, [.ref (ad (40 + 66 * r + 8 * j + 1)), .int (iZ ((E9 j).sign))])) := ⟨_, rfl⟩
        have hP : va_P D vwCl (pw NP ad G_156) H := by rw [hg156]; exact hP
        have hD : va_D A (pw NP ad G_156) := by rw [hg156]; exact hD
        have ho156 : ∀ k : Nat, k ≠ 40 + 66 * r + 8 * j → G_156 k = G5 k := fun k hk => by rw [hg156]; exact zu_n _ _ hk
        have he156 : G_156 (40 + 66 * r + 8 * j) = .inr (3, [.ref (ad (40 + 66 * r + 8 * j + 1)), .int (iZ ((E9 j).sign))]) := by rw [hg156]; exact zu_s _ _ _
        have k156_0 : G_156 (5) = .inr (2, [.ref (ad 6), .ref (ad 33), .ref (ad 34), .ref (ad 35), .ref (ad 454), .ref (ad 459), .ref (ad 464), .ref (ad 466), .ref (ad 468), .ref (ad 470), .ref (ad 36), .ref (ad L9), .int (iZ (((n : Nat) : Int))), .int (iZ (tn)), .int (iZ (pv)), .int (iZ (ml)), .int (iZ (sv))]) := (ho156 (5) (by omega)).trans (k141_0)
        have k156_1 : G_156 (37 + 66 * r) = .inr (8, [.ref (ad (38 + 66 * r)), .ref (ad (39 + 66 * r)), .ref (ad (96 + 66 * r)), .int (iZ (pcr))]) := (ho156 (37 + 66 * r) (by omega)).trans (k141_1)
        have k156_2 : G_156 (37 + 66 * t9) = .inr (8, [.ref (ad (38 + 66 * t9)), .ref (ad (39 + 66 * t9)), .ref (ad (96 + 66 * t9)), .int (iZ (pct))]) := (ho156 (37 + 66 * t9) (by omega)).trans (k141_2)
        have k156_3 : G_156 (38 + 66 * r) = aR cE (7) (fun j => some (ad (40 + 66 * r + 8 * j))) := (ho156 (38 + 66 * r) (by omega)).trans (k141_3)
        have k156_4 : G_156 (38 + 66 * t9) = aR cE (7) (fun j => some (ad (40 + 66 * t9 + 8 * j))) := (ho156 (38 + 66 * t9) (by omega)).trans (k141_4)
        have k156_6 : G_156 (40 + 66 * t9 + 8 * j) = .inr (3, [.ref (ad (40 + 66 * t9 + 8 * j + 1)), .int (iZ ((Et j).sign))]) := (ho156 (40 + 66 * t9 + 8 * j) (by omega)).trans (k141_6)
        have k156_7 : G_156 (40 + 66 * t9 + 8 * c9) = .inr (3, [.ref (ad (40 + 66 * t9 + 8 * c9 + 1)), .int (iZ ((Et c9).sign))]) := (ho156 (40 + 66 * t9 + 8 * c9) (by omega)).trans (k141_7)
        have k156_8 : G_156 (40 + 66 * r + 8 * c9) = .inr (3, [.ref (ad (40 + 66 * r + 8 * c9 + 1)), .int (iZ ((Er c9).sign))]) := (ho156 (40 + 66 * r + 8 * c9) (by omega)).trans (k141_8)
        have k156_9 : G_156 (L9) = .inr (3, [.ref (ad (L9 + 1)), .int (iZ (lp.sign))]) := (ho156 (L9) (by omega)).trans (k141_9)
        have k156_10 : G_156 (6) = .inr (0, [.ref (ad 7), .ref (ad 10), .ref (ad 19), .ref (ad 21), .ref (ad 23), .ref (ad 25), .ref (ad 27), .ref (ad 29), .ref (ad 31)]) := (ho156 (6) (by omega)).trans (k141_10)
        refine lv_iinc (v := iZ (((j + 1 : Nat) : Int))) (lv' := [(6, .int (iZ (((j + 1 : Nat) : Int)))), (9, .int (iZ (sg9))), (8, .ref (ad (40 + 66 * t9 + 8 * j))), (7, .ref (ad (40 + 66 * r + 8 * j))), (4, .ref (ad (40 + 66 * t9 + 8 * c9))), (5, .ref (ad (40 + 66 * r + 8 * c9))), (0, .ref (ad 5)), (1, .ref (ad (37 + 66 * r))), (2, .ref (ad (37 + 66 * t9))), (3, .int (iZ (((c9 : Nat) : Int))))]) hx hb dX2_combineRow_159 hl (k := 3) rfl (by rw [show ((j + 1 : Nat) : Int) = ((j : Nat) : Int) + 1 by omega]; exact iZ_add _ _) (by decide) rfl (fun ls hl => ?_)
        refine lv_goto (tgt := 21) hx hb dX2_combineRow_162 (by decide) ?_
        exact ih (j + 1) G_156 H locs ls (by omega) (by omega) (hA5.keep (fun i q1 q2 => ho156 i (by omega))) ((hw4.has.keep (ho5 _ (by omega) (by omega) (by omega)) (ho5 _ (by omega) (by omega) (by omega))).keep (ho156 _ (by omega)) (ho156 _ (by omega))) ((hm4.keep (ho5 _ (by omega) (by omega) (by omega)) (ho5 _ (by omega) (by omega) (by omega))).keep (ho156 _ (by omega)) (ho156 _ (by omega))) (fun j9 h1 h2 => by by_cases w : j9 = j; (subst w; exact ⟨he156, hw5.keep (ho156 _ (by omega)) (ho156 _ (by omega))⟩); exact (hnew j9 h1 (by omega)).keep (fun i q1 q2 => (ho156 i (by omega)).trans ((ho5 i (by omega) (by omega) (by omega)).trans ((ho4 i (by omega) (by omega) (by omega) (by omega)).trans ((ho3 i (by omega) (by omega)).trans (ho2 i (by omega) (by omega))))))) (fun j9 h1 h2 => (hold j9 (by omega) h2).keep (fun i q1 q2 => (ho156 i (by omega)).trans ((ho5 i (by omega) (by omega) (by omega)).trans ((ho4 i (by omega) (by omega) (by omega) (by omega)).trans ((ho3 i (by omega) (by omega)).trans (ho2 i (by omega) (by omega))))))) (fun i h1 h2 h3 => (ho156 i (by have := h3 j hcj (by omega); omega)).trans ((ho5 i h1 (by have := h3 j hcj (by omega); omega) (by have := h3 j hcj (by omega); omega)).trans ((ho4 i (by omega) (by omega) (by omega) (by omega)).trans ((ho3 i (by omega) (by omega)).trans ((ho2 i (by omega) (by omega)).trans (hof i h1 h2 h3)))))) hP hD hS (lv_sub hl [0, 4, 5, 6, 7, 8, 9] rfl)
  refine lv_aload_n hx hb dX2_combineRow_0 rfl (lv_at hl 2 rfl) ?_
  refine va_getN (D := D) (ci := 8) (v := .ref (ad (38 + 66 * t9))) (C := RX8) (T := TX8) (N := 4) hx hb hts hin8 hown hK hP (37 + 66 * t9) (pw_at (by omega) (hrt)) rfl 0 (by decide) (hN.F 16 rfl) (fun _ h9 => h9) rfl dX2_combineRow_1 ?_
  refine lv_iload_n hx hb dX2_combineRow_4 rfl (lv_at hl 3 rfl) ?_
  refine zr_aald hx hb hK hP (38 + 66 * t9) 2 (pw_at (by omega) (hat)) rfl (c9) (by omega) (by omega) (by omega) (v := ad (40 + 66 * t9 + 8 * c9)) (rfl) dX2_combineRow_5 ?_
  refine lv_astore (lv' := [(4, .ref (ad (40 + 66 * t9 + 8 * c9))), (0, .ref (ad 5)), (1, .ref (ad (37 + 66 * r))), (2, .ref (ad (37 + 66 * t9))), (3, .int (iZ (((c9 : Nat) : Int))))]) hx hb dX2_combineRow_6 hl (by decide) rfl (fun ls hl => ?_)
  refine lv_aload_n hx hb dX2_combineRow_8 rfl (lv_at hl 2 rfl) ?_
  refine va_getN (D := D) (ci := 8) (v := .ref (ad (38 + 66 * r))) (C := RX8) (T := TX8) (N := 4) hx hb hts hin8 hown hK hP (37 + 66 * r) (pw_at (by omega) (hrr)) rfl 0 (by decide) (hN.F 16 rfl) (fun _ h9 => h9) rfl dX2_combineRow_9 ?_
  refine lv_iload_n hx hb dX2_combineRow_12 rfl (lv_at hl 4 rfl) ?_
  refine zr_aald hx hb hK hP (38 + 66 * r) 2 (pw_at (by omega) (har)) rfl (c9) (by omega) (by omega) (by omega) (v := ad (40 + 66 * r + 8 * c9)) (rfl) dX2_combineRow_13 ?_
  refine lv_astore (lv' := [(5, .ref (ad (40 + 66 * r + 8 * c9))), (4, .ref (ad (40 + 66 * t9 + 8 * c9))), (0, .ref (ad 5)), (1, .ref (ad (37 + 66 * r))), (2, .ref (ad (37 + 66 * t9))), (3, .int (iZ (((c9 : Nat) : Int))))]) hx hb dX2_combineRow_14 hl (by decide) rfl (fun ls hl => ?_)
  refine lv_iload_n hx hb dX2_combineRow_16 rfl (lv_at hl 5 rfl) ?_
  refine lv_iconst (v := iZ 1) hx hb dX2_combineRow_17 rfl ?_
  refine zr_iadd hx hb dX2_combineRow_18 ?_
  refine zr_eqi (((c9 + 1 : Nat) : Int)) (by omega) ?_
  refine lv_istore (lv' := [(6, .int (iZ (((c9 + 1 : Nat) : Int)))), (5, .ref (ad (40 + 66 * r + 8 * c9))), (4, .ref (ad (40 + 66 * t9 + 8 * c9))), (0, .ref (ad 5)), (1, .ref (ad (37 + 66 * r))), (2, .ref (ad (37 + 66 * t9))), (3, .int (iZ (((c9 : Nat) : Int))))]) hx hb dX2_combineRow_19 hl (by decide) rfl (fun ls hl => ?_)
  exact lp9 (n - c9) (c9 + 1) G s.heap [] ls (by omega) (by omega) hA0 hpl0 hmi0 (fun j9 h1 h2 => by omega) (fun j9 h1 h2 => hEr j9 (by omega) h2) (fun i _ _ _ => rfl) hP hD hS (lv_sub hl [0, 2, 1, 3, 4, 5, 6] rfl)
