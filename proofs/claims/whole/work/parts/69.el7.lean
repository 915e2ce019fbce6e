
/-- a scaled row times the unknowns' numerators -/
def hs_sum (W9 PR E : Nat → Int) : Nat → Int
  | 0 => 0
  | c + 1 => hs_sum W9 PR E c + (if PR c < 0 then 0 else W9 c * E (PR c).toNat)
theorem hs_pe {V : Nat → Rat} {n i : Nat} {s : peS} (hT : pe_T V n) (hn : n ≤ 6) (h : peV V n n s) {PR : Nat → Int} (hPR : ∀ j : Nat, j < n → PR j = peP s j) : ∀ c : Nat, c ≤ n → ((hs_sum (pe_w V n i) PR (fun k => peE s k n) c : Int) : Rat) = (pe_sc V i (n + 1) : Rat) * (peL s (peR s) : Rat) * pe_rs V s n i c := by
  intro c
  have hl := pe_ne_z (h.2.1.2.2 (peR s) (Nat.le_refl _)).1
  have hsc := pe_ne_n (Nat.ne_of_gt (pe_sc_pos V i (n + 1)))
  induction c with
  | zero => intro _; show (((0 : Int)) : Rat) = _ * (0 : Rat); rw [Rat.mul_zero]; rfl
  | succ c ih =>
    intro hc
    have h1 := ih (by omega)
    show ((hs_sum (pe_w V n i) PR (fun k => peE s k n) c + (if PR c < 0 then 0 else pe_w V n i c * peE s (PR c).toNat n) : Int) : Rat) = _ * _ * (pe_rs V s n i c + pe_x s n c * V (7 * i + c))
    rw [Rat.intCast_add, h1]
    have hw := pe_w_q (A := V) (n := n) (i := i) (j := c) (by omega)
    rcases pe_x_b hT hn h (j := c) (by omega) with ⟨q1, q2⟩ | ⟨k, q0, q1, _, _, _, _, q2⟩
    · rw [hPR c (by omega), if_pos (by omega), q2]
      rw [show (((0 : Int)) : Rat) = 0 from rfl]
      generalize pe_rs V s n i c = a
      generalize V (7 * i + c) = b
      generalize (pe_sc V i (n + 1) : Rat) = d
      generalize (peL s (peR s) : Rat) = e
      grind
    · rw [hPR c (by omega), if_neg (by omega), q2, q1, Int.toNat_natCast, Rat.intCast_mul, hw]
      generalize pe_rs V s n i c = a at *
      generalize (pe_w V n i c : Rat) = b at *
      generalize (pe_sc V i (n + 1) : Rat) = d at *
      generalize (peL s (peR s) : Rat) = e at *
      generalize (peE s k n : Rat) = f at *
      grind
theorem hs_iff {V : Nat → Rat} {n i : Nat} {s : peS} (hT : pe_T V n) (hn : n ≤ 6) (h : peV V n n s) {PR : Nat → Int} (hPR : ∀ j : Nat, j < n → PR j = peP s j) : hs_sum (pe_w V n i) PR (fun k => peE s k n) n = pe_w V n i n * peL s (peR s) ↔ pe_rs V s n i n = V (7 * i + n) := by
  have hl := pe_ne_z (h.2.1.2.2 (peR s) (Nat.le_refl _)).1
  have hsc := pe_ne_n (Nat.ne_of_gt (pe_sc_pos V i (n + 1)))
  have h1 := hs_pe (i := i) hT hn h hPR n (Nat.le_refl n)
  have hw := pe_w_q (A := V) (n := n) (i := i) (j := n) (Nat.le_refl n)
  rw [← Rat.intCast_inj, h1, Rat.intCast_mul, hw]
  generalize pe_rs V s n i n = a at *
  generalize (pe_w V n i n : Rat) = b at *
  generalize (pe_sc V i (n + 1) : Rat) = d at *
  generalize (peL s (peR s) : Rat) = e at *
  constructor
  · intro q; grind
  · intro q; rw [q]; grind
theorem pe_w8 {V : Nat → Rat} {n i j : Nat} (hT : pe_T V n) (hn : n ≤ 6) (hi : i < n) : ((pe_w V n i j).natAbs : Int) < bg_p 8 := by
  have h1 := pe_w_le (j := j) hT hn hi
  rw [bg_pn]
  have h5 : 2147483648 ^ 7 < 2147483648 ^ 8 := by decide
  exact Int.ofNat_lt.mpr (by omega)
set_option maxHeartbeats 4000000 in
set_option maxRecDepth 100000 in
/-- Elimination.holds -/
theorem p_holds (l : Launch) (D : va_G) (cI cJ cE cF cR : ClassId) (NP : Nat) (ad : Nat → Nat) (G : Nat → va_E) (L9 n i rl : Nat) (tn pv ml sv : Int) (V : Nat → Rat) (ρ : Nat → Nat) (PR : Nat → Int) (hel : G 5 = .inr (2, [.ref (ad 6), .ref (ad 33), .ref (ad 34), .ref (ad 35), .ref (ad 454), .ref (ad 459), .ref (ad 464), .ref (ad 466), .ref (ad 468), .ref (ad 470), .ref (ad 36), .ref (ad L9), .int (iZ (((n : Nat) : Int))), .int (iZ (tn)), .int (iZ (pv)), .int (iZ (ml)), .int (iZ (sv))])) (hst : pSt cE cF cR ad G ρ) (hwk : pWk cI ad G) (hpr9 : G 35 = aI cI 6 PR) (hPR : ∀ j9 : Nat, j9 < n → PR j9 = peP (pe V n n) j9) (hRw : ∀ i9 : Nat, i9 < n → pRw cI ad G (ρ i9) n (n) (peE (pe V n n) i9) (peM (pe V n n) i9) ((pe_sc V (peI (pe V n n) i9) (n + 1) : Nat) : Int) (if i9 < peR (pe V n n) then ((peC (pe V n n) i9 : Nat) : Int) else -1)) (hL : pEn cI ad G L9 rl (peL (pe V n n) (peR (pe V n n)))) (hL9 : pLp NP L9 rl n) (hQ9 : pEq cJ ad G n V) (hT : pe_T V n) (hVn : peV V n n (pe V n n)) (hi : i < n) (hn : n ≤ 6) (hNP : 480 ≤ NP) : Ci l D (zty cI cJ cE cF cR) yX2_holds wsX2_holds (zRm 5 190) 0 0 [.ref (ad 5), .ref (ad 2), .int (iZ (((i : Nat) : Int)))] (pw NP ad G) (fun z9 w1 => ∃ G1 : Nat → va_E, w1 = pw NP ad G1 ∧ z9 = (if pe_rs V (pe V n n) n i n = V (7 * i + n) then 1 else 0) ∧ pWk cI ad G1 ∧ (∀ i9 : Nat, i9 < 7 ∨ (32 < i9 ∧ i9 < 433) ∨ (453 < i9 ∧ i9 < 464) ∨ 469 < i9 → G1 i9 = G i9)) := by
  unfold Ci
  refine zs (Qc := zQi D _ _) (cc := cX2_holds) (maxL := 4) (ret := (some .boolean)) (by decide) rfl (Nat.le_of_ble_eq_true rfl) ?_
  intro zp ze s zm below meth zc ls A args Q hQ hx hb hr hts hown hlk hml hnm hN hA hK hP hD hS hl
  have q_f_RX2_85_Elimination_n_I := hts (.fieldLink RX2 85 "LimbSolver$Elimination" "n" "I") (by decide +kernel)
  have hin2 : ∀ w ∈ wsX20, w ∈ wsX2_holds := by decide +kernel
  have q_f_RX2_36_Elimination_asTold_LEntry := hts (.fieldLink RX2 36 "LimbSolver$Elimination" "asTold" "[LLimbSolver$Entry;") (by decide +kernel)
  have q_f_RX2_82_Elimination_lastPivot_LEntry := hts (.fieldLink RX2 82 "LimbSolver$Elimination" "lastPivot" "LLimbSolver$Entry;") (by decide +kernel)
  have q_f_RX2_57_Elimination_plus_LWhole := hts (.fieldLink RX2 57 "LimbSolver$Elimination" "plus" "LLimbSolver$Whole;") (by decide +kernel)
  have q_f_RX2_61_Elimination_minus_LWhole := hts (.fieldLink RX2 61 "LimbSolver$Elimination" "minus" "LLimbSolver$Whole;") (by decide +kernel)
  have q_f_RX2_30_Elimination_pivotRows_I := hts (.fieldLink RX2 30 "LimbSolver$Elimination" "pivotRows" "[I") (by decide +kernel)
  have q_f_RX2_20_Elimination_rows_LRow := hts (.fieldLink RX2 20 "LimbSolver$Elimination" "rows" "[LLimbSolver$Row;") (by decide +kernel)
  have hin8 : ∀ w ∈ wsX80, w ∈ wsX2_holds := by decide +kernel
  have q_f_RX2_12_Elimination_arithmetic_LArithmetic := hts (.fieldLink RX2 12 "LimbSolver$Elimination" "arithmetic" "LLimbSolver$Arithmetic;") (by decide +kernel)
  have q_f_RX2_64_Elimination_bottom_LWhole := hts (.fieldLink RX2 64 "LimbSolver$Elimination" "bottom" "LLimbSolver$Whole;") (by decide +kernel)
  have hl : lv_has ls 4 [(0, .ref (ad 5)), (1, .ref (ad 2)), (2, .int (iZ (((i : Nat) : Int))))] := hl
  have hPRb : ∀ c8 : Nat, c8 < n → PR c8 = -1 ∨ (0 ≤ PR c8 ∧ PR c8 < ((peR (pe V n n) : Nat) : Int)) := fun c8 h => by rw [hPR c8 h]; rcases hVn.2.2.2.2.2.2.2.2.1 c8 h with q | ⟨i9, q1, q2, _⟩; (exact Or.inl q); (right; omega)
  have lp9 : ∀ (t : Nat) (c9 : Nat) (G1 : Nat → va_E) (vp : Int) (vm : Int) (H : Heap) (locs : List Loc) (ls : Array Slot), (c9 + t = n) → (pAr cI ad G1) → (pWh cI ad G1 464 96 vp) → (pWh cI ad G1 466 96 vm) → (pHas cI ad G1 468 96) → (∀ j9 : Nat, j9 ≤ n → pEn cI ad G1 (433 + 3 * j9) 46 (pe_w V n i j9)) → (vp - vm = hs_sum (pe_w V n i) PR (fun k => peE (pe V n n) k n) (c9)) → (vp ≤ (c9 : Int) * bg_p 51) → (vm ≤ (c9 : Int) * bg_p 51) → (∀ i9 : Nat, i9 < 7 ∨ (32 < i9 ∧ i9 < 433) ∨ (453 < i9 ∧ i9 < 464) ∨ 469 < i9 → G1 i9 = G i9) → (∀ i9 : Nat, 433 + 3 * n + 2 < i9 → i9 ≤ 453 → G1 i9 = G i9) →  va_P D vwCl (pw NP ad G1) H → va_D A (pw NP ad G1) → va_S A s.heap H locs → lv_has ls 4 [(3, .int (iZ (((c9 : Nat) : Int)))), (0, .ref (ad 5)), (1, .ref (ad 2)), (2, .int (iZ (((i : Nat) : Int))))] → W zp l ze (zRm 5 190) s zm args below meth zc H locs 0 0 Q (F0 zm 33 ls []) := by
    intro t
    induction t with
    | zero =>
      intro c9 G1 vp vm H locs ls hct hA1 hpl hmi hbo has hdf hvp hvm hof hof2 hP hD hS hl
      refine lv_iload_n hx hb dX2_holds_33 rfl (lv_at hl 0 rfl) ?_
      refine lv_aload_n hx hb dX2_holds_34 rfl (lv_at hl 1 rfl) ?_
      refine va_get (D := D) (ci := 2) (v := .int (iZ (((n : Nat) : Int)))) (C := RX2) (T := TX2) (N := 17) hx hb hts hin2 hown hK hP (5) (pw_at (by omega) ((hof (5) (by omega)).trans (hel))) rfl 12 (by decide) q_f_RX2_85_Elimination_n_I (fun _ h9 => h9) rfl dX2_holds_35 ?_
      refine zr_icmp_ge hx hb 86 ⟨by omega, by omega⟩ ⟨by omega, by omega⟩ dX2_holds_38 (by decide) (fun h_38 => ?_) (fun h_38 => ?_)
      · have hb51 := bg_p_pos 51
        have hb52 : bg_p 52 = 2147483648 * bg_p 51 := by rw [show (52 : Nat) = 1 + 51 from rfl, bg_p_add]; rfl
        have hcn : c9 = n := by omega
        have hvp6 : (c9 : Int) * bg_p 51 ≤ 6 * bg_p 51 := Int.mul_le_mul_of_nonneg_right (by omega) (Int.le_of_lt hb51)
        have hpw : ((pe_w V n i n * peL (pe V n n) (peR (pe V n n))).natAbs : Int) < bg_p 51 := pr_bm (m := 8) (k := 43) (pe_w8 hT hn hi) (peV_L43 hn hVn).1
        have hLa := hL9.1
        have hLd := hL9.2.2.2.1
        refine lv_aload_n hx hb dX2_holds_86 rfl (lv_at hl 1 rfl) ?_
        refine lv_aload_n hx hb dX2_holds_87 rfl (lv_at hl 1 rfl) ?_
        refine va_get (D := D) (ci := 2) (v := .ref (ad 36)) (C := RX2) (T := TX2) (N := 17) hx hb hts hin2 hown hK hP (5) (pw_at (by omega) ((hof (5) (by omega)).trans (hel))) rfl 10 (by decide) q_f_RX2_36_Elimination_asTold_LEntry (fun _ h9 => h9) rfl dX2_holds_88 ?_
        refine lv_aload_n hx hb dX2_holds_91 rfl (lv_at hl 1 rfl) ?_
        refine va_get (D := D) (ci := 2) (v := .int (iZ (((n : Nat) : Int)))) (C := RX2) (T := TX2) (N := 17) hx hb hts hin2 hown hK hP (5) (pw_at (by omega) ((hof (5) (by omega)).trans (hel))) rfl 12 (by decide) q_f_RX2_85_Elimination_n_I (fun _ h9 => h9) rfl dX2_holds_92 ?_
        refine zr_aald hx hb hK hP (36) 2 (pw_at (by omega) ((hof (36) (by omega)).trans (hst.2.2.1))) rfl (n) (by omega) (by omega) (by omega) (v := ad (433 + 3 * n)) (rfl) dX2_holds_95 ?_
        refine lv_aload_n hx hb dX2_holds_96 rfl (lv_at hl 1 rfl) ?_
        refine va_get (D := D) (ci := 2) (v := .ref (ad L9)) (C := RX2) (T := TX2) (N := 17) hx hb hts hin2 hown hK hP (5) (pw_at (by omega) ((hof (5) (by omega)).trans (hel))) rfl 11 (by decide) q_f_RX2_82_Elimination_lastPivot_LEntry (fun _ h9 => h9) rfl dX2_holds_97 ?_
        refine lv_iconst (v := iZ (-1)) hx hb dX2_holds_100 rfl ?_
        refine zc_Vv (As := [.ref (ad (433 + 3 * n)), .ref (ad L9), .int (iZ ((-1)))]) (rest := []) (wr := []) ⟨hx, hb, hml, hown, hts⟩ (p_addProduct l D cI cJ cE cF cR NP ad G1 (433 + 3 * n) L9 46 rl 8 43 52 L9 n tn pv ml sv (-1) (pe_w V n i n) (peL (pe V n n) (peR (pe V n n))) vp vm ((hof (5) (by omega)).trans (hel)) (has n (Nat.le_refl n)) (hL.keep (fun k9 q1 q2 => hof k9 (by omega))) hpl hmi hbo (Or.inr rfl) (pe_w8 hT hn hi) (peV_L43 hn hVn).1 (by decide) (by decide) (by omega) (by omega) (by omega) (by decide) (by have := hL9.2.2.1; omega) (by have := hL9.2.2.2.1; omega) ⟨by omega, by omega, by omega⟩ ⟨by omega, hL9.2.1, by omega⟩ hNP) (cwV 3 hts gX2_holds_X2_addProduct rfl rfl rfl (by decide +kernel) ⟨Nat.le_of_ble_eq_true rfl, Nat.le_of_ble_eq_true rfl⟩) hN hK hP hD hS hA (List.range NP) [] (pw_all _ _ _) rfl (pw_nd _) rfl (fun _ h9 => nomatch h9) (q0 := 5) (ci := 2) rfl rfl (pw_at (by omega) ((hof (5) (by omega)).trans (hel))) rfl hl.1 (Nat.le_of_ble_eq_true rfl) dX2_holds_101 ⟨by decide, by decide⟩ (fun w1 H locs hp hP hD hS => ?_)
        obtain ⟨G2, rfl, vp1, vm1, hp2, hm2, hb2, hd2, hx1, hx2, ho2⟩ := hp
        obtain ⟨pn, pg, hpn, hpg, hpo⟩ := id hp2
        have hP : va_P D vwCl (pw NP ad G2) H := hP
        have hD : va_D A (pw NP ad G2) := hD
        have k101_0 : G2 (5) = .inr (2, [.ref (ad 6), .ref (ad 33), .ref (ad 34), .ref (ad 35), .ref (ad 454), .ref (ad 459), .ref (ad 464), .ref (ad 466), .ref (ad 468), .ref (ad 470), .ref (ad 36), .ref (ad L9), .int (iZ (((n : Nat) : Int))), .int (iZ (tn)), .int (iZ (pv)), .int (iZ (ml)), .int (iZ (sv))]) := (ho2 (5) (by omega)).trans ((hof (5) (by omega)).trans (hel))
        have k101_1 : G2 (33) = aR cR (6) (fun i => some (ad (37 + 66 * ρ i))) := (ho2 (33) (by omega)).trans ((hof (33) (by omega)).trans (hst.1))
        have k101_2 : G2 (35) = aI cI (6) (PR) := (ho2 (35) (by omega)).trans ((hof (35) (by omega)).trans (hpr9))
        have k101_3 : G2 (36) = aR cE (7) (fun j => some (ad (433 + 3 * j))) := (ho2 (36) (by omega)).trans ((hof (36) (by omega)).trans (hst.2.2.1))
        have hmn : -1 * pe_w V n i n * peL (pe V n n) (peR (pe V n n)) = -(pe_w V n i n * peL (pe V n n) (peR (pe V n n))) := by rw [Int.neg_one_mul, Int.neg_mul]
        rw [hmn, hdf, hcn] at hd2
        have hasw : ∀ j : Nat, j < 7 → pEh cI ad G2 (433 + 3 * j) 46 := fun j hj => by by_cases w : j ≤ n; (exact ((has j w).has).keep (fun k9 q1 q2 => ho2 k9 (by omega))); exact ((hwk.2.2.2.2.2.2.2 j hj).keep (fun k9 q1 q2 => hof2 k9 (by omega) (by omega))).keep (fun k9 q1 q2 => ho2 k9 (by omega))
        refine lv_aload_n hx hb dX2_holds_104 rfl (lv_at hl 1 rfl) ?_
        refine va_get (D := D) (ci := 2) (v := .ref (ad 464)) (C := RX2) (T := TX2) (N := 17) hx hb hts hin2 hown hK hP (5) (pw_at (by omega) (k101_0)) rfl 6 (by decide) q_f_RX2_57_Elimination_plus_LWhole (fun _ h9 => h9) rfl dX2_holds_105 ?_
        refine lv_aload_n hx hb dX2_holds_108 rfl (lv_at hl 1 rfl) ?_
        refine va_get (D := D) (ci := 2) (v := .ref (ad 466)) (C := RX2) (T := TX2) (N := 17) hx hb hts hin2 hown hK hP (5) (pw_at (by omega) (k101_0)) rfl 7 (by decide) q_f_RX2_61_Elimination_minus_LWhole (fun _ h9 => h9) rfl dX2_holds_109 ?_
        refine zc_Vi (As := [.ref (ad 466)]) (rest := []) (wr := []) ⟨hx, hb, hml, hown, hts⟩ (p_against l D cI cJ cE cF cR NP ad G2 464 466 96 96 vp1 vm1 hp2 hm2 (by decide) (by decide) (by omega) ⟨by omega, by omega⟩) (cwV 1 hts gX2_holds_X9_against rfl rfl rfl (by decide +kernel) ⟨Nat.le_of_ble_eq_true rfl, Nat.le_of_ble_eq_true rfl⟩) hN hK hP hD hS hA (List.range NP) [] (pw_all _ _ _) rfl (pw_nd _) rfl (fun _ h9 => nomatch h9) (q0 := 464) (ci := 9) rfl rfl (pw_at (by omega) (hpn)) rfl hl.1 (Nat.le_of_ble_eq_true rfl) dX2_holds_112 ⟨by decide, by decide⟩ (fun rg w1 H locs hz112 hp hP hD hS => ?_)
        obtain ⟨G9, rfl, hg1, hg2, ho9⟩ := hp
        obtain rfl : G2 = G9 := (funext ho9).symm
        have hP : va_P D vwCl (pw NP ad G2) H := hP
        have hD : va_D A (pw NP ad G2) := hD
        refine zr_if_ne hx hb 122 (by assumption) dX2_holds_115 (by decide) (fun h_115 => ?_) (fun h_115 => ?_)
        · refine lv_iconst (v := iZ 0) hx hb dX2_holds_122 rfl ?_
          exact zr_zret hQ hx hb hr hlk dX2_holds_123 hK hP hD hS (by omega) (by omega) (by omega) (⟨G2, rfl, by rw [if_neg (fun q => h_115 (hg2.mpr (by have := (hs_iff (i := i) hT hn hVn hPR).mpr q; omega)))], ⟨hA1.keep (fun k9 q1 q2 => ho2 k9 (by omega)), hp2.has, hm2.has, hb2, (hwk.2.2.2.2.1.keep (fun k9 q1 q2 => hof k9 (by omega))).keep (fun k9 q1 q2 => ho2 k9 (by omega)), (hwk.2.2.2.2.2.1.keep (fun k9 q1 q2 => hof k9 (by omega))).keep (fun k9 q1 q2 => ho2 k9 (by omega)), (hwk.2.2.2.2.2.2.1.keep (fun k9 q1 q2 => hof k9 (by omega))).keep (fun k9 q1 q2 => ho2 k9 (by omega)), hasw⟩, fun i9 h => (ho2 i9 (by omega)).trans (hof i9 h)⟩)
        · refine lv_iconst (v := iZ 1) hx hb dX2_holds_118 rfl ?_
          refine lv_goto (tgt := 123) hx hb dX2_holds_119 (by decide) ?_
          exact zr_zret hQ hx hb hr hlk dX2_holds_123 hK hP hD hS (by omega) (by omega) (by omega) (⟨G2, rfl, by rw [if_pos ((hs_iff hT hn hVn hPR).mp (by omega))], ⟨hA1.keep (fun k9 q1 q2 => ho2 k9 (by omega)), hp2.has, hm2.has, hb2, (hwk.2.2.2.2.1.keep (fun k9 q1 q2 => hof k9 (by omega))).keep (fun k9 q1 q2 => ho2 k9 (by omega)), (hwk.2.2.2.2.2.1.keep (fun k9 q1 q2 => hof k9 (by omega))).keep (fun k9 q1 q2 => ho2 k9 (by omega)), (hwk.2.2.2.2.2.2.1.keep (fun k9 q1 q2 => hof k9 (by omega))).keep (fun k9 q1 q2 => ho2 k9 (by omega)), hasw⟩, fun i9 h => (ho2 i9 (by omega)).trans (hof i9 h)⟩)
      · exfalso; omega
    | succ t ih =>
      intro c9 G1 vp vm H locs ls hct hA1 hpl hmi hbo has hdf hvp hvm hof hof2 hP hD hS hl
      refine lv_iload_n hx hb dX2_holds_33 rfl (lv_at hl 0 rfl) ?_
      refine lv_aload_n hx hb dX2_holds_34 rfl (lv_at hl 1 rfl) ?_
      refine va_get (D := D) (ci := 2) (v := .int (iZ (((n : Nat) : Int)))) (C := RX2) (T := TX2) (N := 17) hx hb hts hin2 hown hK hP (5) (pw_at (by omega) ((hof (5) (by omega)).trans (hel))) rfl 12 (by decide) q_f_RX2_85_Elimination_n_I (fun _ h9 => h9) rfl dX2_holds_35 ?_
      refine zr_icmp_ge hx hb 86 ⟨by omega, by omega⟩ ⟨by omega, by omega⟩ dX2_holds_38 (by decide) (fun h_38 => ?_) (fun h_38 => ?_)
      · exfalso; omega
      · have hb51 := bg_p_pos 51
        have hb52 : bg_p 52 = 2147483648 * bg_p 51 := by rw [show (52 : Nat) = 1 + 51 from rfl, bg_p_add]; rfl
        have hrN := hVn.1.2.1
        have hprc := hPRb c9 (by omega)
        have hvp6 : (c9 : Int) * bg_p 51 ≤ 6 * bg_p 51 := Int.mul_le_mul_of_nonneg_right (by omega) (Int.le_of_lt hb51)
        have hc1 : ((c9 + 1 : Nat) : Int) * bg_p 51 = (c9 : Int) * bg_p 51 + bg_p 51 := by rw [Int.natCast_add, Int.add_mul]; omega
        refine lv_aload_n hx hb dX2_holds_41 rfl (lv_at hl 1 rfl) ?_
        refine va_get (D := D) (ci := 2) (v := .ref (ad 35)) (C := RX2) (T := TX2) (N := 17) hx hb hts hin2 hown hK hP (5) (pw_at (by omega) ((hof (5) (by omega)).trans (hel))) rfl 3 (by decide) q_f_RX2_30_Elimination_pivotRows_I (fun _ h9 => h9) rfl dX2_holds_42 ?_
        refine lv_iload_n hx hb dX2_holds_45 rfl (lv_at hl 0 rfl) ?_
        refine zr_iald hx hb hK hP (35) 0 (pw_at (by omega) ((hof (35) (by omega)).trans (hpr9))) rfl (c9) (by omega) (by omega) (by omega) dX2_holds_46 ?_
        refine zr_if_lt hx hb 80 ⟨by omega, by omega⟩ dX2_holds_47 (by decide) (fun h_47 => ?_) (fun h_47 => ?_)
        · refine lv_iinc (v := iZ (((c9 + 1 : Nat) : Int))) (lv' := [(3, .int (iZ (((c9 + 1 : Nat) : Int)))), (0, .ref (ad 5)), (1, .ref (ad 2)), (2, .int (iZ (((i : Nat) : Int))))]) hx hb dX2_holds_80 hl (k := 0) rfl (by rw [show ((c9 + 1 : Nat) : Int) = ((c9 : Nat) : Int) + 1 by omega]; exact iZ_add _ _) (by decide) rfl (fun ls hl => ?_)
          refine lv_goto (tgt := 33) hx hb dX2_holds_83 (by decide) ?_
          exact ih (c9 + 1) G1 vp vm H locs ls (by omega) hA1 hpl hmi hbo has (by show _ = hs_sum (pe_w V n i) PR (fun k => peE (pe V n n) k n) (c9) + (if PR c9 < 0 then 0 else pe_w V n i c9 * peE (pe V n n) (PR c9).toNat n); rw [if_pos (by omega), hdf, Int.add_zero]) (by omega) (by omega) hof hof2 hP hD hS (lv_sub hl [0, 1, 2, 3] rfl)
        · have hpi : (PR c9).toNat < peR (pe V n n) ∧ PR c9 = (((PR c9).toNat : Nat) : Int) := by omega
          have hrN := hVn.1.2.1
          have hρi := hst.2.2.2.2.1 (PR c9).toNat (by omega)
          have hEi := ((hRw (PR c9).toNat (by omega)).2.1 n (Nat.le_refl n) (Nat.le_refl n)).keep (G' := G1) (fun k9 q1 q2 => hof k9 (by omega))
          have hpw : ((pe_w V n i c9 * peE (pe V n n) (PR c9).toNat n).natAbs : Int) < bg_p 51 := pr_bm (m := 8) (k := 43) (pe_w8 hT hn hi) (peV_E43 hT hn hVn (by omega) (Nat.le_refl n))
          refine lv_aload_n hx hb dX2_holds_50 rfl (lv_at hl 1 rfl) ?_
          refine lv_aload_n hx hb dX2_holds_51 rfl (lv_at hl 1 rfl) ?_
          refine va_get (D := D) (ci := 2) (v := .ref (ad 36)) (C := RX2) (T := TX2) (N := 17) hx hb hts hin2 hown hK hP (5) (pw_at (by omega) ((hof (5) (by omega)).trans (hel))) rfl 10 (by decide) q_f_RX2_36_Elimination_asTold_LEntry (fun _ h9 => h9) rfl dX2_holds_52 ?_
          refine lv_iload_n hx hb dX2_holds_55 rfl (lv_at hl 0 rfl) ?_
          refine zr_aald hx hb hK hP (36) 2 (pw_at (by omega) ((hof (36) (by omega)).trans (hst.2.2.1))) rfl (c9) (by omega) (by omega) (by omega) (v := ad (433 + 3 * c9)) (rfl) dX2_holds_56 ?_
          refine lv_aload_n hx hb dX2_holds_57 rfl (lv_at hl 1 rfl) ?_
          refine va_get (D := D) (ci := 2) (v := .ref (ad 33)) (C := RX2) (T := TX2) (N := 17) hx hb hts hin2 hown hK hP (5) (pw_at (by omega) ((hof (5) (by omega)).trans (hel))) rfl 1 (by decide) q_f_RX2_20_Elimination_rows_LRow (fun _ h9 => h9) rfl dX2_holds_58 ?_
          refine lv_aload_n hx hb dX2_holds_61 rfl (lv_at hl 1 rfl) ?_
          refine va_get (D := D) (ci := 2) (v := .ref (ad 35)) (C := RX2) (T := TX2) (N := 17) hx hb hts hin2 hown hK hP (5) (pw_at (by omega) ((hof (5) (by omega)).trans (hel))) rfl 3 (by decide) q_f_RX2_30_Elimination_pivotRows_I (fun _ h9 => h9) rfl dX2_holds_62 ?_
          refine lv_iload_n hx hb dX2_holds_65 rfl (lv_at hl 0 rfl) ?_
          refine zr_iald hx hb hK hP (35) 0 (pw_at (by omega) ((hof (35) (by omega)).trans (hpr9))) rfl (c9) (by omega) (by omega) (by omega) dX2_holds_66 ?_
          refine zr_aald hx hb hK hP (33) 4 (pw_at (by omega) ((hof (33) (by omega)).trans (hst.1))) rfl ((PR c9).toNat) (by omega) (by omega) (by omega) (v := ad (37 + 66 * ρ (PR c9).toNat)) (rfl) dX2_holds_67 ?_
          refine va_getN (D := D) (ci := 8) (v := .ref (ad (38 + 66 * ρ (PR c9).toNat))) (C := RX8) (T := TX8) (N := 4) hx hb hts hin8 hown hK hP (37 + 66 * ρ (PR c9).toNat) (pw_at (by omega) ((hof (37 + 66 * ρ (PR c9).toNat) (by omega)).trans (hRw (PR c9).toNat (by omega)).1)) rfl 0 (by decide) (hN.F 16 rfl) (fun _ h9 => h9) rfl dX2_holds_68 ?_
          refine lv_aload_n hx hb dX2_holds_71 rfl (lv_at hl 1 rfl) ?_
          refine va_get (D := D) (ci := 2) (v := .int (iZ (((n : Nat) : Int)))) (C := RX2) (T := TX2) (N := 17) hx hb hts hin2 hown hK hP (5) (pw_at (by omega) ((hof (5) (by omega)).trans (hel))) rfl 12 (by decide) q_f_RX2_85_Elimination_n_I (fun _ h9 => h9) rfl dX2_holds_72 ?_
          refine zr_aald hx hb hK hP (38 + 66 * ρ (PR c9).toNat) 2 (pw_at (by omega) ((hof (38 + 66 * ρ (PR c9).toNat) (by omega)).trans (hst.2.2.2.1 (ρ (PR c9).toNat) hρi).1)) rfl (n) (by omega) (by omega) (by omega) (v := ad (40 + 66 * ρ (PR c9).toNat + 8 * n)) (rfl) dX2_holds_75 ?_
          refine lv_iconst (v := iZ 1) hx hb dX2_holds_76 rfl ?_
          refine zc_Vv (As := [.ref (ad (433 + 3 * c9)), .ref (ad (40 + 66 * ρ (PR c9).toNat + 8 * n)), .int (iZ (1))]) (rest := []) (wr := []) ⟨hx, hb, hml, hown, hts⟩ (p_addProduct l D cI cJ cE cF cR NP ad G1 (433 + 3 * c9) (40 + 66 * ρ (PR c9).toNat + 8 * n) 46 46 8 43 52 L9 n tn pv ml sv 1 (pe_w V n i c9) (peE (pe V n n) (PR c9).toNat n) vp vm ((hof (5) (by omega)).trans (hel)) (has c9 (by omega)) hEi hpl hmi hbo (Or.inl rfl) (pe_w8 hT hn hi) (peV_E43 hT hn hVn (by omega) (Nat.le_refl n)) (by decide) (by decide) (by omega) (by omega) (by omega) (by decide) (by decide) (by omega) ⟨by omega, by omega, by omega⟩ ⟨by omega, by omega, by omega⟩ hNP) (cwV 3 hts gX2_holds_X2_addProduct rfl rfl rfl (by decide +kernel) ⟨Nat.le_of_ble_eq_true rfl, Nat.le_of_ble_eq_true rfl⟩) hN hK hP hD hS hA (List.range NP) [] (pw_all _ _ _) rfl (pw_nd _) rfl (fun _ h9 => nomatch h9) (q0 := 5) (ci := 2) rfl rfl (pw_at (by omega) ((hof (5) (by omega)).trans (hel))) rfl hl.1 (Nat.le_of_ble_eq_true rfl) dX2_holds_77 ⟨by decide, by decide⟩ (fun w1 H locs hp hP hD hS => ?_)
          obtain ⟨G2, rfl, vp1, vm1, hp2, hm2, hb2, hd2, hx1, hx2, ho2⟩ := hp
          have hP : va_P D vwCl (pw NP ad G2) H := hP
          have hD : va_D A (pw NP ad G2) := hD
          refine lv_iinc (v := iZ (((c9 + 1 : Nat) : Int))) (lv' := [(3, .int (iZ (((c9 + 1 : Nat) : Int)))), (0, .ref (ad 5)), (1, .ref (ad 2)), (2, .int (iZ (((i : Nat) : Int))))]) hx hb dX2_holds_80 hl (k := 0) rfl (by rw [show ((c9 + 1 : Nat) : Int) = ((c9 : Nat) : Int) + 1 by omega]; exact iZ_add _ _) (by decide) rfl (fun ls hl => ?_)
          refine lv_goto (tgt := 33) hx hb dX2_holds_83 (by decide) ?_
          exact ih (c9 + 1) G2 vp1 vm1 H locs ls (by omega) (hA1.keep (fun k9 q1 q2 => ho2 k9 (by omega))) hp2 hm2 hb2 (fun j9 h => (has j9 h).keep (fun k9 q1 q2 => ho2 k9 (by omega))) (by show _ = hs_sum (pe_w V n i) PR (fun k => peE (pe V n n) k n) (c9) + (if PR c9 < 0 then 0 else pe_w V n i c9 * peE (pe V n n) (PR c9).toNat n); rw [if_neg (by omega), hd2, hdf, Int.one_mul]) (by omega) (by omega) (fun i9 h => (ho2 i9 (by omega)).trans (hof i9 h)) (fun i9 h1 h2 => (ho2 i9 (by omega)).trans (hof2 i9 h1 h2)) hP hD hS (lv_sub hl [0, 1, 2, 3] rfl)
  refine lv_aload_n hx hb dX2_holds_0 rfl (lv_at hl 0 rfl) ?_
  refine va_get (D := D) (ci := 2) (v := .ref (ad 6)) (C := RX2) (T := TX2) (N := 17) hx hb hts hin2 hown hK hP (5) (pw_at (by omega) (hel)) rfl 0 (by decide) q_f_RX2_12_Elimination_arithmetic_LArithmetic (fun _ h9 => h9) rfl dX2_holds_1 ?_
  refine lv_aload_n hx hb dX2_holds_4 rfl (lv_at hl 1 rfl) ?_
  refine lv_iload_n hx hb dX2_holds_5 rfl (lv_at hl 2 rfl) ?_
  refine lv_aload_n hx hb dX2_holds_6 rfl (lv_at hl 0 rfl) ?_
  refine va_get (D := D) (ci := 2) (v := .ref (ad 36)) (C := RX2) (T := TX2) (N := 17) hx hb hts hin2 hown hK hP (5) (pw_at (by omega) (hel)) rfl 10 (by decide) q_f_RX2_36_Elimination_asTold_LEntry (fun _ h9 => h9) rfl dX2_holds_7 ?_
  refine lv_aload_n hx hb dX2_holds_10 rfl (lv_at hl 0 rfl) ?_
  refine va_get (D := D) (ci := 2) (v := .ref (ad 468)) (C := RX2) (T := TX2) (N := 17) hx hb hts hin2 hown hK hP (5) (pw_at (by omega) (hel)) rfl 8 (by decide) q_f_RX2_64_Elimination_bottom_LWhole (fun _ h9 => h9) rfl dX2_holds_11 ?_
  refine zc_Vv (As := [.ref (ad 2), .int (iZ (((i : Nat) : Int))), .ref (ad 36), .ref (ad 468)]) (rest := []) (wr := []) ⟨hx, hb, hml, hown, hts⟩ (p_scaleRow l D cI cJ cE cF cR NP ad G n i 36 468 96 433 3 V hQ9 hwk.1 hwk.2.2.2.1 hst.2.2.1 (fun j9 h => hwk.2.2.2.2.2.2.2 j9 (by omega)) hT hi hn ⟨by decide, by decide⟩ ⟨by omega, by omega⟩ ⟨by omega, by omega, by omega⟩ (fun j9 h => ⟨by omega, by omega, by omega, by omega⟩) (fun j9 k9 h => by omega)) (cwV 4 hts gX2_holds_X0_scaleRow rfl rfl rfl (by decide +kernel) ⟨Nat.le_of_ble_eq_true rfl, Nat.le_of_ble_eq_true rfl⟩) hN hK hP hD hS hA (List.range NP) [] (pw_all _ _ _) rfl (pw_nd _) rfl (fun _ h9 => nomatch h9) (q0 := 6) (ci := 0) rfl rfl (pw_at (by omega) (hwk.1.1)) rfl hl.1 (Nat.le_of_ble_eq_true rfl) dX2_holds_14 ⟨by decide, by decide⟩ (fun w1 H locs hp hP hD hS => ?_)
  obtain ⟨G1, rfl, hA1, hs1, he1, ho1⟩ := hp
  obtain ⟨pc0, pg0, hpc, hpg⟩ := hwk.2.1.keep (G' := G1) (ho1 _ (by omega) (by omega) (by omega) (fun j9 _ => by omega)) (ho1 _ (by omega) (by omega) (by omega) (fun j9 _ => by omega))
  obtain ⟨mc0, mg0, hmc, hmg⟩ := hwk.2.2.1.keep (G' := G1) (ho1 _ (by omega) (by omega) (by omega) (fun j9 _ => by omega)) (ho1 _ (by omega) (by omega) (by omega) (fun j9 _ => by omega))
  have hP : va_P D vwCl (pw NP ad G1) H := hP
  have hD : va_D A (pw NP ad G1) := hD
  have k14_0 : G1 (5) = .inr (2, [.ref (ad 6), .ref (ad 33), .ref (ad 34), .ref (ad 35), .ref (ad 454), .ref (ad 459), .ref (ad 464), .ref (ad 466), .ref (ad 468), .ref (ad 470), .ref (ad 36), .ref (ad L9), .int (iZ (((n : Nat) : Int))), .int (iZ (tn)), .int (iZ (pv)), .int (iZ (ml)), .int (iZ (sv))]) := (ho1 (5) (by omega) (by omega) (by omega) (fun j9 _ => by omega)).trans (hel)
  have k14_1 : G1 (6) = .inr (0, [.ref (ad 7), .ref (ad 10), .ref (ad 19), .ref (ad 21), .ref (ad 23), .ref (ad 25), .ref (ad 27), .ref (ad 29), .ref (ad 31)]) := (ho1 (6) (by omega) (by omega) (by omega) (fun j9 _ => by omega)).trans (hwk.1.1)
  have k14_2 : G1 (36) = aR cE (7) (fun j => some (ad (433 + 3 * j))) := (ho1 (36) (by omega) (by omega) (by omega) (fun j9 _ => by omega)).trans (hst.2.2.1)
  refine lv_aload_n hx hb dX2_holds_17 rfl (lv_at hl 0 rfl) ?_
  refine va_get (D := D) (ci := 2) (v := .ref (ad 464)) (C := RX2) (T := TX2) (N := 17) hx hb hts hin2 hown hK hP (5) (pw_at (by omega) (k14_0)) rfl 6 (by decide) q_f_RX2_57_Elimination_plus_LWhole (fun _ h9 => h9) rfl dX2_holds_18 ?_
  refine zc_Vv (As := []) (rest := []) (wr := []) ⟨hx, hb, hml, hown, hts⟩ (p_clear l D cI cJ cE cF cR NP ad G1 464 96 ⟨pc0, pg0, hpc, hpg⟩ (by omega)) (cwV 0 hts gX2_holds_X9_clear rfl rfl rfl (by decide +kernel) ⟨Nat.le_of_ble_eq_true rfl, Nat.le_of_ble_eq_true rfl⟩) hN hK hP hD hS hA (List.range NP) [] (pw_all _ _ _) rfl (pw_nd _) rfl (fun _ h9 => nomatch h9) (q0 := 464) (ci := 9) rfl rfl (pw_at (by omega) (hpc)) rfl hl.1 (Nat.le_of_ble_eq_true rfl) dX2_holds_21 ⟨by decide, by decide⟩ (fun w1 H locs hp hP hD hS => ?_)
  obtain ⟨G2, rfl, hc2, ho2⟩ := hp
  have hP : va_P D vwCl (pw NP ad G2) H := hP
  have hD : va_D A (pw NP ad G2) := hD
  have k21_0 : G2 (5) = .inr (2, [.ref (ad 6), .ref (ad 33), .ref (ad 34), .ref (ad 35), .ref (ad 454), .ref (ad 459), .ref (ad 464), .ref (ad 466), .ref (ad 468), .ref (ad 470), .ref (ad 36), .ref (ad L9), .int (iZ (((n : Nat) : Int))), .int (iZ (tn)), .int (iZ (pv)), .int (iZ (ml)), .int (iZ (sv))]) := (ho2 (5) (by omega)).trans (k14_0)
  have k21_1 : G2 (6) = .inr (0, [.ref (ad 7), .ref (ad 10), .ref (ad 19), .ref (ad 21), .ref (ad 23), .ref (ad 25), .ref (ad 27), .ref (ad 29), .ref (ad 31)]) := (ho2 (6) (by omega)).trans (k14_1)
  have k21_2 : G2 (36) = aR cE (7) (fun j => some (ad (433 + 3 * j))) := (ho2 (36) (by omega)).trans (k14_2)
  have k21_4 : G2 (466) = .inr (9, [.ref (ad (466 + 1)), .int (iZ (mc0))]) := (ho2 (466) (by omega)).trans (hmc)
  refine lv_aload_n hx hb dX2_holds_24 rfl (lv_at hl 0 rfl) ?_
  refine va_get (D := D) (ci := 2) (v := .ref (ad 466)) (C := RX2) (T := TX2) (N := 17) hx hb hts hin2 hown hK hP (5) (pw_at (by omega) (k21_0)) rfl 7 (by decide) q_f_RX2_61_Elimination_minus_LWhole (fun _ h9 => h9) rfl dX2_holds_25 ?_
  refine zc_Vv (As := []) (rest := []) (wr := []) ⟨hx, hb, hml, hown, hts⟩ (p_clear l D cI cJ cE cF cR NP ad G2 466 96 (pHas.keep ⟨mc0, mg0, hmc, hmg⟩ (ho2 _ (by omega)) (ho2 _ (by omega))) (by omega)) (cwV 0 hts gX2_holds_X9_clear rfl rfl rfl (by decide +kernel) ⟨Nat.le_of_ble_eq_true rfl, Nat.le_of_ble_eq_true rfl⟩) hN hK hP hD hS hA (List.range NP) [] (pw_all _ _ _) rfl (pw_nd _) rfl (fun _ h9 => nomatch h9) (q0 := 466) (ci := 9) rfl rfl (pw_at (by omega) (k21_4)) rfl hl.1 (Nat.le_of_ble_eq_true rfl) dX2_holds_28 ⟨by decide, by decide⟩ (fun w1 H locs hp hP hD hS => ?_)
  obtain ⟨G3, rfl, hc3, ho3⟩ := hp
  have hP : va_P D vwCl (pw NP ad G3) H := hP
  have hD : va_D A (pw NP ad G3) := hD
  refine lv_iconst (v := iZ 0) hx hb dX2_holds_31 rfl ?_
  refine zr_eqi (((0 : Nat) : Int)) (by rfl) ?_
  refine lv_istore_n (lv' := [(3, .int (iZ (((0 : Nat) : Int)))), (0, .ref (ad 5)), (1, .ref (ad 2)), (2, .int (iZ (((i : Nat) : Int))))]) hx hb dX2_holds_32 rfl hl (by decide) rfl (fun ls hl => ?_)
  exact lp9 n 0 G3 0 0 H locs ls (by omega) (hA1.keep (fun k9 q1 q2 => (ho3 (k9) (by omega)).trans (ho2 (k9) (by omega)))) (hc2.keep (ho3 _ (by omega)) (ho3 _ (by omega))) hc3 (hs1.has.keep ((ho3 (_) (by omega)).trans (ho2 (_) (by omega))) ((ho3 (_) (by omega)).trans (ho2 (_) (by omega)))) (fun j9 h => (he1 j9 h).keep (fun k9 q1 q2 => (ho3 (k9) (by omega)).trans (ho2 (k9) (by omega)))) rfl (by show (0 : Int) ≤ 0 * _; omega) (by show (0 : Int) ≤ 0 * _; omega) (fun i9 h => (ho3 (i9) (by omega)).trans ((ho2 (i9) (by omega)).trans (ho1 (i9) (by omega) (by omega) (by omega) (fun j9 _ => by omega)))) (fun i9 h1 h2 => (ho3 (i9) (by omega)).trans ((ho2 (i9) (by omega)).trans (ho1 (i9) (by omega) (by omega) (by omega) (fun j9 _ => by omega)))) hP hD hS (lv_sub hl [0, 1, 2, 3] rfl)
