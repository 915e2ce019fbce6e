
/-- a row: its entries from column c on, its cells, its scale, its pivot's column -/
def pRw (cI : ClassId) (ad : Nat → Nat) (G : Nat → va_E) (q n c : Nat) (E : Nat → Int) (M : Nat → Rat) (sc pc : Int) : Prop := G (37 + 66 * q) = .inr (8, [.ref (ad (38 + 66 * q)), .ref (ad (39 + 66 * q)), .ref (ad (96 + 66 * q)), .int (iZ (pc))]) ∧ (∀ j : Nat, c ≤ j → j ≤ n → pEn cI ad G (40 + 66 * q + 8 * j) 46 (E j)) ∧ (∀ j : Nat, j ≤ n → pFr cI ad G (43 + 66 * q + 8 * j) 80 (M j)) ∧ pWh cI ad G (96 + 66 * q) 46 sc
theorem pRw.keep {cI : ClassId} {ad : Nat → Nat} {G G' : Nat → va_E} {q n c : Nat} {E : Nat → Int} {M : Nat → Rat} {sc pc : Int} (h : pRw cI ad G q n c E M sc pc) (hn : n ≤ 6) (hk : ∀ i : Nat, 37 + 66 * q ≤ i → i ≤ 97 + 66 * q → G' i = G i) : pRw cI ad G' q n c E M sc pc :=
  ⟨(hk _ (by omega) (by omega)).trans h.1, fun j h1 h2 => (h.2.1 j h1 h2).keep (fun i q1 q2 => hk i (by omega) (by omega)), fun j h1 => (h.2.2.1 j h1).keep (fun i q1 q2 => hk i (by omega) (by omega)), h.2.2.2.keep (hk _ (by omega) (by omega)) (hk _ (by omega) (by omega))⟩
/-- the rooms of all rows -/
def pHb (cI : ClassId) (ad : Nat → Nat) (G : Nat → va_E) : Prop := ∀ q : Nat, q < 6 → (∃ pc : Int, G (37 + 66 * q) = .inr (8, [.ref (ad (38 + 66 * q)), .ref (ad (39 + 66 * q)), .ref (ad (96 + 66 * q)), .int (iZ (pc))])) ∧ (∀ j : Nat, j < 7 → pEh cI ad G (40 + 66 * q + 8 * j) 46 ∧ pFh cI ad G (43 + 66 * q + 8 * j) 80) ∧ pHas cI ad G (96 + 66 * q) 46 ∧ pFh cI ad G (98 + 66 * q) 46
theorem pHb.upd {cI : ClassId} {ad : Nat → Nat} {G G' : Nat → va_E} (h : pHb cI ad G) (hR : ∀ q : Nat, q < 6 → G' (37 + 66 * q) = G (37 + 66 * q) ∨ ∃ pc : Int, G' (37 + 66 * q) = .inr (8, [.ref (ad (38 + 66 * q)), .ref (ad (39 + 66 * q)), .ref (ad (96 + 66 * q)), .int (iZ (pc))])) (hE : ∀ q j : Nat, q < 6 → j < 7 → (∀ i : Nat, 40 + 66 * q + 8 * j ≤ i → i ≤ 42 + 66 * q + 8 * j → G' i = G i) ∨ pEh cI ad G' (40 + 66 * q + 8 * j) 46) (hC : ∀ q j : Nat, q < 6 → j < 7 → (∀ i : Nat, 43 + 66 * q + 8 * j ≤ i → i ≤ 47 + 66 * q + 8 * j → G' i = G i) ∨ pFh cI ad G' (43 + 66 * q + 8 * j) 80) (hS : ∀ q : Nat, q < 6 → (∀ i : Nat, 96 + 66 * q ≤ i → i ≤ 97 + 66 * q → G' i = G i) ∨ pHas cI ad G' (96 + 66 * q) 46) (hU : ∀ q : Nat, q < 6 → (∀ i : Nat, 98 + 66 * q ≤ i → i ≤ 102 + 66 * q → G' i = G i) ∨ pFh cI ad G' (98 + 66 * q) 46) : pHb cI ad G' := by
  intro q hq
  obtain ⟨⟨pc, h1⟩, h2, h3, h4⟩ := h q hq
  refine ⟨?_, fun j hj => ⟨?_, ?_⟩, ?_, ?_⟩
  · rcases hR q hq with w | w
    · exact ⟨pc, w.trans h1⟩
    · exact w
  · rcases hE q j hq hj with w | w
    · exact (h2 j hj).1.keep (fun i q1 q2 => w i (by omega) (by omega))
    · exact w
  · rcases hC q j hq hj with w | w
    · exact (h2 j hj).2.keep (fun i q1 q2 => w i (by omega) (by omega))
    · exact w
  · rcases hS q hq with w | w
    · exact h3.keep (w _ (by omega) (by omega)) (w _ (by omega) (by omega))
    · exact w
  · rcases hU q hq with w | w
    · exact h4.keep (fun i q1 q2 => w i (by omega) (by omega))
    · exact w
theorem pHb.keep {cI : ClassId} {ad : Nat → Nat} {G G' : Nat → va_E} (h : pHb cI ad G) (hk : ∀ i : Nat, 37 ≤ i → i < 433 → G' i = G i) : pHb cI ad G' := h.upd (fun q hq => Or.inl (hk _ (by omega) (by omega))) (fun q j hq hj => Or.inl (fun i _ _ => hk i (by omega) (by omega))) (fun q j hq hj => Or.inl (fun i _ _ => hk i (by omega) (by omega))) (fun q hq => Or.inl (fun i _ _ => hk i (by omega) (by omega))) (fun q hq => Or.inl (fun i _ _ => hk i (by omega) (by omega)))
/-- the rooms to work in -/
def pWk (cI : ClassId) (ad : Nat → Nat) (G : Nat → va_E) : Prop := pAr cI ad G ∧ pHas cI ad G 464 96 ∧ pHas cI ad G 466 96 ∧ pHas cI ad G 468 96 ∧ pFh cI ad G 459 46 ∧ pFh cI ad G 454 46 ∧ pEn cI ad G 470 1 1 ∧ ∀ j : Nat, j < 7 → pEh cI ad G (433 + 3 * j) 46
theorem pWk.keep {cI : ClassId} {ad : Nat → Nat} {G G' : Nat → va_E} (h : pWk cI ad G) (hk : ∀ i : Nat, (6 ≤ i ∧ i ≤ 32) ∨ (433 ≤ i ∧ i ≤ 472) → G' i = G i) : pWk cI ad G' := by
  obtain ⟨h1, h2, h3, h4, h5, h6, h7, h8⟩ := h
  exact ⟨h1.keep (fun k a b => hk k (by omega)), h2.keep (hk _ (by omega)) (hk _ (by omega)), h3.keep (hk _ (by omega)) (hk _ (by omega)), h4.keep (hk _ (by omega)) (hk _ (by omega)), h5.keep (fun i a b => hk i (by omega)), h6.keep (fun i a b => hk i (by omega)), h7.keep (fun i a b => hk i (by omega)), fun j hj => (h8 j hj).keep (fun i a b => hk i (by omega))⟩
theorem rl_b {x : Rat} {a : Nat} (h1 : ((x.num.natAbs : Nat) : Int) < hx_p a) (h2 : ((x.den : Nat) : Int) < hx_p a) : rl x ≤ 2 * a := by
  have key : ∀ v : Nat, ((v : Nat) : Int) < hx_p a → lcn v ≤ a := by
    intro v hv
    unfold lcn
    by_cases q : v = 0
    · rw [if_pos q]; omega
    · rw [if_neg q]
      have e : hx_p a = ((2 ^ (16 * a) : Nat) : Int) := by
        rw [hx_bt]; show (2 : Int) ^ (16 * a) = _; simp
      rw [e] at hv
      have h3 := (Nat.log2_lt q).mpr (Int.ofNat_lt.mp hv)
      omega
  unfold rl
  have := key _ h1
  have := key _ h2
  omega
set_option maxHeartbeats 4000000 in
set_option maxRecDepth 100000 in
/-- Elimination.begin -/
theorem p_begin (l : Launch) (D : va_G) (cI cJ cE cF cR : ClassId) (NP : Nat) (ad : Nat → Nat) (G : Nat → va_E) (L9 n : Nat) (n0 tn pv ml sv : Int) (V : Nat → Rat) (ρ : Nat → Nat) (hel : G 5 = .inr (2, [.ref (ad 6), .ref (ad 33), .ref (ad 34), .ref (ad 35), .ref (ad 454), .ref (ad 459), .ref (ad 464), .ref (ad 466), .ref (ad 468), .ref (ad 470), .ref (ad 36), .ref (ad L9), .int (iZ (n0)), .int (iZ (tn)), .int (iZ (pv)), .int (iZ (ml)), .int (iZ (sv))])) (hst : pSt cE cF cR ad G ρ) (hA0 : pAr cI ad G) (hHb0 : pHb cI ad G) (hQ9 : pEq cJ ad G n V) (hT : pe_T V n) (h1n : 1 ≤ n) (hn : n ≤ 6) (hNP : 480 ≤ NP) : Cv l D (zty cI cJ cE cF cR) yX2_begin wsX2_begin (zRm 5 180) 0 0 [.ref (ad 5), .ref (ad 2)] (pw NP ad G) (fun w1 => ∃ G1 : Nat → va_E, w1 = pw NP ad G1 ∧ G1 5 = .inr (2, [.ref (ad 6), .ref (ad 33), .ref (ad 34), .ref (ad 35), .ref (ad 454), .ref (ad 459), .ref (ad 464), .ref (ad 466), .ref (ad 468), .ref (ad 470), .ref (ad 36), .ref (ad 470), .int (iZ (((n : Nat) : Int))), .int (iZ (1)), .int (iZ (0)), .int (iZ (((pe_mt n (fun i j => V (7 * i + j)) : Nat) : Int))), .int (iZ (sv))]) ∧ pAr cI ad G1 ∧ pHb cI ad G1 ∧ (∀ r9 : Nat, r9 < 6 → G1 (38 + 66 * r9) = aR cE (7) (fun j => some (ad (40 + 66 * r9 + 8 * j))) ∧ G1 (39 + 66 * r9) = aR cF (7) (fun j => some (ad (43 + 66 * r9 + 8 * j)))) ∧ (∀ i9 : Nat, i9 < n → pRw cI ad G1 (ρ i9) n 0 (pe_w V n i9) (fun j => V (7 * i9 + j)) ((pe_sc V i9 (n + 1) : Nat) : Int) (-1)) ∧ (∀ i9 : Nat, i9 < 5 ∨ (33 ≤ i9 ∧ i9 ≤ 36) ∨ 433 ≤ i9 → G1 i9 = G i9)) := by
  unfold Cv
  refine zs (Qc := zQv D _ _) (cc := cX2_begin) (maxL := 5) (ret := none) (by decide) rfl (Nat.le_of_ble_eq_true rfl) ?_
  intro zp ze s zm below meth zc ls A args Q hQ hx hb hr hts hown hlk hml hnm hN hA hK hP hD hS hl
  have q_f_RX2_85_Elimination_n_I := hts (.fieldLink RX2 85 "LimbSolver$Elimination" "n" "I") (by decide +kernel)
  have hin2 : ∀ w ∈ wsX20, w ∈ wsX2_begin := by decide +kernel
  have q_f_RX2_94_Elimination_mostLimbs_I := hts (.fieldLink RX2 94 "LimbSolver$Elimination" "mostLimbs" "I") (by decide +kernel)
  have hin8 : ∀ w ∈ wsX80, w ∈ wsX2_begin := by decide +kernel
  have q_f_RX2_20_Elimination_rows_LRow := hts (.fieldLink RX2 20 "LimbSolver$Elimination" "rows" "[LLimbSolver$Row;") (by decide +kernel)
  have q_f_RX2_12_Elimination_arithmetic_LArithmetic := hts (.fieldLink RX2 12 "LimbSolver$Elimination" "arithmetic" "LLimbSolver$Arithmetic;") (by decide +kernel)
  have hin4 : ∀ w ∈ wsX40, w ∈ wsX2_begin := by decide +kernel
  have q_methodLink_RX2_148_Lib_Math_min_name := hts (.methodLink RX2 148 Lib.Math.min.name) (by decide +kernel)
  have q_static_Lib_Math_min_name := hts (.static Lib.Math.min.name) (by decide +kernel)
  have q_initialized_java_lang_Math := hts (.initialized "java/lang/Math") (by decide +kernel)
  have q_code_Lib_Math_min_name_Lib_Math_min_code_2_some_in := hts (.code Lib.Math.min.name Lib.Math.min.code 2 (some .int)) (by decide +kernel)
  have q_f_RX2_88_Elimination_turn_I := hts (.fieldLink RX2 88 "LimbSolver$Elimination" "turn" "I") (by decide +kernel)
  have q_f_RX2_91_Elimination_pivots_I := hts (.fieldLink RX2 91 "LimbSolver$Elimination" "pivots" "I") (by decide +kernel)
  have q_f_RX2_67_Elimination_one_LEntry := hts (.fieldLink RX2 67 "LimbSolver$Elimination" "one" "LLimbSolver$Entry;") (by decide +kernel)
  have q_f_RX2_82_Elimination_lastPivot_LEntry := hts (.fieldLink RX2 82 "LimbSolver$Elimination" "lastPivot" "LLimbSolver$Entry;") (by decide +kernel)
  have hl : lv_has ls 5 [(0, .ref (ad 5)), (1, .ref (ad 2))] := hl
  have lp9 : ∀ (t : Nat) (i : Nat) (G1 : Nat → va_E) (H : Heap) (locs : List Loc) (ls : Array Slot), (i + t = n) → (G1 5 = .inr (2, [.ref (ad 6), .ref (ad 33), .ref (ad 34), .ref (ad 35), .ref (ad 454), .ref (ad 459), .ref (ad 464), .ref (ad 466), .ref (ad 468), .ref (ad 470), .ref (ad 36), .ref (ad 470), .int (iZ (((n : Nat) : Int))), .int (iZ (1)), .int (iZ (0)), .int (iZ (ml)), .int (iZ (sv))])) → (pAr cI ad G1) → (pHb cI ad G1) → (∀ r9 : Nat, r9 < 6 → G1 (38 + 66 * r9) = aR cE (7) (fun j => some (ad (40 + 66 * r9 + 8 * j))) ∧ G1 (39 + 66 * r9) = aR cF (7) (fun j => some (ad (43 + 66 * r9 + 8 * j)))) → (∀ i9 : Nat, i9 < i → pRw cI ad G1 (ρ i9) n 0 (pe_w V n i9) (fun j => V (7 * i9 + j)) ((pe_sc V i9 (n + 1) : Nat) : Int) (-1)) → (∀ i9 : Nat, i9 < 5 ∨ (33 ≤ i9 ∧ i9 ≤ 36) ∨ 433 ≤ i9 → G1 i9 = G i9) →  va_P D vwCl (pw NP ad G1) H → va_D A (pw NP ad G1) → va_S A s.heap H locs → lv_has ls 5 [(2, .int (iZ (((i : Nat) : Int)))), (0, .ref (ad 5)), (1, .ref (ad 2))] → W zp l ze (zRm 5 180) s zm args below meth zc H locs 0 0 Q (F0 zm 33 ls []) := by
    intro t
    induction t with
    | zero =>
      intro i G1 H locs ls hit hel1 hA1 hHb hAr hRw hof hP hD hS hl
      refine lv_iload_n hx hb dX2_begin_33 rfl (lv_at hl 0 rfl) ?_
      refine lv_aload_n hx hb dX2_begin_34 rfl (lv_at hl 1 rfl) ?_
      refine va_get (D := D) (ci := 2) (v := .int (iZ (((n : Nat) : Int)))) (C := RX2) (T := TX2) (N := 17) hx hb hts hin2 hown hK hP (5) (pw_at (by omega) (hel1)) rfl 12 (by decide) q_f_RX2_85_Elimination_n_I (fun _ h9 => h9) rfl dX2_begin_35 ?_
      refine zr_icmp_ge hx hb 108 ⟨by omega, by omega⟩ ⟨by omega, by omega⟩ dX2_begin_38 (by decide) (fun h_38 => ?_) (fun h_38 => ?_)
      · refine lv_aload_n hx hb dX2_begin_108 rfl (lv_at hl 1 rfl) ?_
        refine lv_aload_n hx hb dX2_begin_109 rfl (lv_at hl 1 rfl) ?_
        refine zc_Vi (As := []) (rest := [.ref (ad 5)]) (wr := []) ⟨hx, hb, hml, hown, hts⟩ (p_stateLimbs l D cI cJ cE cF cR NP ad G1 (fun i j => V (7 * i + j)) 470 n 1 0 ml sv hel1 ρ (fun _ => -1) ⟨(hof (33) (by omega)).trans hst.1, (hof (34) (by omega)).trans hst.2.1, (hof (36) (by omega)).trans hst.2.2.1, hAr, hst.2.2.2.2⟩ (fun i9 h => (hRw i9 (by omega)).1) (fun i9 j9 h1 h2 => (hRw i9 (by omega)).2.2.1 j9 h2) (fun i9 j9 h1 h2 => Nat.le_trans (rl_b (pe_V2 hT h1 h2).1 (pe_V2 hT h1 h2).2) (by decide)) hn hNP) (cwV 0 hts gX2_begin_X2_stateLimbs rfl rfl rfl (by decide +kernel) ⟨Nat.le_of_ble_eq_true rfl, Nat.le_of_ble_eq_true rfl⟩) hN hK hP hD hS hA (List.range NP) [] (pw_all _ _ _) rfl (pw_nd _) rfl (fun _ h9 => nomatch h9) (q0 := 5) (ci := 2) rfl rfl (pw_at (by omega) (hel1)) rfl hl.1 (Nat.le_of_ble_eq_true rfl) dX2_begin_110 ⟨by decide, by decide⟩ (fun zs w1 H locs hz110 hp hP hD hS => ?_)
        obtain ⟨G9, rfl, hr0, ho9⟩ := hp
        obtain rfl : G1 = G9 := (funext ho9).symm
        subst hr0
        have hP : va_P D vwCl (pw NP ad G1) H := hP
        have hD : va_D A (pw NP ad G1) := hD
        refine va_put (D := D) (ci := 2) (v := .int (iZ (((pe_mt n (fun i j => V (7 * i + j)) : Nat) : Int)))) (ty := tyX2 15) (C := RX2) (T := TX2) (N := 17) hx hb hts hin2 tyX2 tyX2_ok nmX2 hown hK hP hD hS (5) (pw_at (by omega) (hel1)) rfl 15 (by decide) q_f_RX2_94_Elimination_mostLimbs_I (fun _ h9 => h9) rfl (tyX2_ok 15 (by decide)) rfl rfl (Nat.le_of_ble_eq_true rfl) dX2_begin_113 (fun H locs hP hD hS => ?_)
        rw [pw_set] at hP hD
        obtain ⟨G_113, hg113⟩ : ∃ g : Nat → va_E, g = zu G1 (5) (.inr (2, [.ref (ad 6), .ref (ad 33), .ref (ad 34), .ref (ad 35), .ref (ad 454), .ref (ad 459), .ref (ad 464), .ref (ad 466), .ref (ad 468), .ref (ad 470), .ref (ad 36), .ref (ad 470), .int (iZ (((n : Nat) : Int))), .int (iZ (1)), .int (iZ (0)), .int (iZ (((pe_mt n (fun i j => V (7 * i + j)) : Nat) : Int))), .int (iZ (sv))])) := ⟨_, rfl⟩
        have hP : va_P D vwCl (pw NP ad G_113) H := by rw [hg113]; exact hP
        have hD : va_D A (pw NP ad G_113) := by rw [hg113]; exact hD
        have ho113 : ∀ k : Nat, k ≠ 5 → G_113 k = G1 k := fun k hk => by rw [hg113]; exact zu_n _ _ hk
        have he113 : G_113 (5) = .inr (2, [.ref (ad 6), .ref (ad 33), .ref (ad 34), .ref (ad 35), .ref (ad 454), .ref (ad 459), .ref (ad 464), .ref (ad 466), .ref (ad 468), .ref (ad 470), .ref (ad 36), .ref (ad 470), .int (iZ (((n : Nat) : Int))), .int (iZ (1)), .int (iZ (0)), .int (iZ (((pe_mt n (fun i j => V (7 * i + j)) : Nat) : Int))), .int (iZ (sv))]) := by rw [hg113]; exact zu_s _ _ _
        exact zr_vret hQ hx hb hr hlk dX2_begin_116 hK hP hD hS (by omega) (by omega) (⟨G_113, rfl, he113, hA1.keep (fun k q1 q2 => ho113 k (by omega)), hHb.keep (fun i9 q1 q2 => ho113 i9 (by omega)), (fun r9 h => ⟨(ho113 _ (by omega)).trans (hAr r9 h).1, (ho113 _ (by omega)).trans (hAr r9 h).2⟩), (fun i9 h => (hRw i9 (by omega)).keep hn (fun k q1 q2 => ho113 k (by omega))), fun i9 h => (ho113 i9 (by omega)).trans (hof i9 h)⟩)
      · exfalso; omega
    | succ t ih =>
      intro i G1 H locs ls hit hel1 hA1 hHb hAr hRw hof hP hD hS hl
      refine lv_iload_n hx hb dX2_begin_33 rfl (lv_at hl 0 rfl) ?_
      refine lv_aload_n hx hb dX2_begin_34 rfl (lv_at hl 1 rfl) ?_
      refine va_get (D := D) (ci := 2) (v := .int (iZ (((n : Nat) : Int)))) (C := RX2) (T := TX2) (N := 17) hx hb hts hin2 hown hK hP (5) (pw_at (by omega) (hel1)) rfl 12 (by decide) q_f_RX2_85_Elimination_n_I (fun _ h9 => h9) rfl dX2_begin_35 ?_
      refine zr_icmp_ge hx hb 108 ⟨by omega, by omega⟩ ⟨by omega, by omega⟩ dX2_begin_38 (by decide) (fun h_38 => ?_) (fun h_38 => ?_)
      · exfalso; omega
      · have hρi := hst.2.2.2.2.1 i (by omega)
        obtain ⟨⟨pc0, hpc0⟩, hb1, hb2, hb3⟩ := hHb (ρ i) hρi
        refine lv_aload_n hx hb dX2_begin_41 rfl (lv_at hl 1 rfl) ?_
        refine va_get (D := D) (ci := 2) (v := .ref (ad 33)) (C := RX2) (T := TX2) (N := 17) hx hb hts hin2 hown hK hP (5) (pw_at (by omega) (hel1)) rfl 1 (by decide) q_f_RX2_20_Elimination_rows_LRow (fun _ h9 => h9) rfl dX2_begin_42 ?_
        refine lv_iload_n hx hb dX2_begin_45 rfl (lv_at hl 0 rfl) ?_
        refine zr_aald hx hb hK hP (33) 4 (pw_at (by omega) ((hof (33) (by omega)).trans hst.1)) rfl (i) (by omega) (by omega) (by omega) (v := ad (37 + 66 * ρ i)) (rfl) dX2_begin_46 ?_
        refine lv_astore_n (lv' := [(3, .ref (ad (37 + 66 * ρ i))), (2, .int (iZ (((i : Nat) : Int)))), (0, .ref (ad 5)), (1, .ref (ad 2))]) hx hb dX2_begin_47 rfl hl (by decide) rfl (fun ls hl => ?_)
        refine lv_aload_n hx hb dX2_begin_48 rfl (lv_at hl 0 rfl) ?_
        refine lv_iconst (v := iZ (-1)) hx hb dX2_begin_49 rfl ?_
        refine va_putN (D := D) (ci := 8) (v := .int (iZ ((-1)))) (ty := tyX8 3) (C := RX8) (T := TX8) (N := 4) hx hb hts hin8 tyX8 tyX8_ok nmX8 hown hK hP hD hS (37 + 66 * ρ i) (pw_at (by omega) (hpc0)) rfl 3 (by decide) (hN.F 20 rfl) (fun _ h9 => h9) rfl (tyX8_ok 3 (by decide)) rfl rfl (Nat.le_of_ble_eq_true rfl) dX2_begin_50 (fun H locs hP hD hS => ?_)
        rw [pw_set] at hP hD
        obtain ⟨G_50, hg50⟩ : ∃ g : Nat → va_E, g = zu G1 (37 + 66 * ρ i) (.inr (8, [.ref (ad (38 + 66 * ρ i)), .ref (ad (39 + 66 * ρ i)), .ref (ad (96 + 66 * ρ i)), .int (iZ ((-1)))])) := ⟨_, rfl⟩
        have hP : va_P D vwCl (pw NP ad G_50) H := by rw [hg50]; exact hP
        have hD : va_D A (pw NP ad G_50) := by rw [hg50]; exact hD
        have ho50 : ∀ k : Nat, k ≠ 37 + 66 * ρ i → G_50 k = G1 k := fun k hk => by rw [hg50]; exact zu_n _ _ hk
        have he50 : G_50 (37 + 66 * ρ i) = .inr (8, [.ref (ad (38 + 66 * ρ i)), .ref (ad (39 + 66 * ρ i)), .ref (ad (96 + 66 * ρ i)), .int (iZ ((-1)))]) := by rw [hg50]; exact zu_s _ _ _
        have k50_0 : G_50 (5) = .inr (2, [.ref (ad 6), .ref (ad 33), .ref (ad 34), .ref (ad 35), .ref (ad 454), .ref (ad 459), .ref (ad 464), .ref (ad 466), .ref (ad 468), .ref (ad 470), .ref (ad 36), .ref (ad 470), .int (iZ (((n : Nat) : Int))), .int (iZ (1)), .int (iZ (0)), .int (iZ (ml)), .int (iZ (sv))]) := (ho50 (5) (by omega)).trans (hel1)
        have k50_1 : G_50 (33) = aR cR (6) (fun i => some (ad (37 + 66 * ρ i))) := (ho50 (33) (by omega)).trans ((hof (33) (by omega)).trans hst.1)
        have k50_3 : G_50 (6) = .inr (0, [.ref (ad 7), .ref (ad 10), .ref (ad 19), .ref (ad 21), .ref (ad 23), .ref (ad 25), .ref (ad 27), .ref (ad 29), .ref (ad 31)]) := (ho50 (6) (by omega)).trans (hA1.1)
        have k50_4 : G_50 (2) = .inr (4, [.ref (ad 3), .ref (ad 4), .int (iZ (((n : Nat) : Int)))]) := (ho50 (2) (by omega)).trans ((hof (2) (by omega)).trans hQ9.1)
        have k50_5 : G_50 (38 + 66 * ρ i) = aR cE (7) (fun j => some (ad (40 + 66 * ρ i + 8 * j))) := (ho50 (38 + 66 * ρ i) (by omega)).trans ((hAr (ρ i) hρi).1)
        refine lv_aload_n hx hb dX2_begin_53 rfl (lv_at hl 2 rfl) ?_
        refine va_get (D := D) (ci := 2) (v := .ref (ad 6)) (C := RX2) (T := TX2) (N := 17) hx hb hts hin2 hown hK hP (5) (pw_at (by omega) (k50_0)) rfl 0 (by decide) q_f_RX2_12_Elimination_arithmetic_LArithmetic (fun _ h9 => h9) rfl dX2_begin_54 ?_
        refine lv_aload_n hx hb dX2_begin_57 rfl (lv_at hl 3 rfl) ?_
        refine lv_iload_n hx hb dX2_begin_58 rfl (lv_at hl 1 rfl) ?_
        refine lv_aload_n hx hb dX2_begin_59 rfl (lv_at hl 0 rfl) ?_
        refine va_getN (D := D) (ci := 8) (v := .ref (ad (38 + 66 * ρ i))) (C := RX8) (T := TX8) (N := 4) hx hb hts hin8 hown hK hP (37 + 66 * ρ i) (pw_at (by omega) (he50)) rfl 0 (by decide) (hN.F 16 rfl) (fun _ h9 => h9) rfl dX2_begin_60 ?_
        refine lv_aload_n hx hb dX2_begin_63 rfl (lv_at hl 0 rfl) ?_
        refine va_getN (D := D) (ci := 8) (v := .ref (ad (96 + 66 * ρ i))) (C := RX8) (T := TX8) (N := 4) hx hb hts hin8 hown hK hP (37 + 66 * ρ i) (pw_at (by omega) (he50)) rfl 2 (by decide) (hN.F 19 rfl) (fun _ h9 => h9) rfl dX2_begin_64 ?_
        refine zc_Vv (As := [.ref (ad 2), .int (iZ (((i : Nat) : Int))), .ref (ad (38 + 66 * ρ i)), .ref (ad (96 + 66 * ρ i))]) (rest := []) (wr := []) ⟨hx, hb, hml, hown, hts⟩ (p_scaleRow l D cI cJ cE cF cR NP ad G_50 n i (38 + 66 * ρ i) (96 + 66 * ρ i) 46 (40 + 66 * ρ i) 8 V (hQ9.keep ((ho50 _ (by omega)).trans (hof (2) (by omega))) ((ho50 _ (by omega)).trans (hof (3) (by omega))) ((ho50 _ (by omega)).trans (hof (4) (by omega)))) (hA1.keep (fun k q1 q2 => ho50 k (by omega))) (hb2.keep (ho50 _ (by omega)) (ho50 _ (by omega))) ((ho50 _ (by omega)).trans (hAr (ρ i) hρi).1) (fun j9 h => ((hb1 j9 (by omega)).1.keep (fun i9 q1 q2 => ho50 i9 (by omega)))) hT (by omega) hn ⟨by decide, by decide⟩ ⟨by omega, by omega⟩ ⟨by omega, by omega, by omega⟩ (fun j9 h => ⟨by omega, by omega, by omega, by omega⟩) (fun j9 k9 h => by omega)) (cwV 4 hts gX2_begin_X0_scaleRow rfl rfl rfl (by decide +kernel) ⟨Nat.le_of_ble_eq_true rfl, Nat.le_of_ble_eq_true rfl⟩) hN hK hP hD hS hA (List.range NP) [] (pw_all _ _ _) rfl (pw_nd _) rfl (fun _ h9 => nomatch h9) (q0 := 6) (ci := 0) rfl rfl (pw_at (by omega) (k50_3)) rfl hl.1 (Nat.le_of_ble_eq_true rfl) dX2_begin_67 ⟨by decide, by decide⟩ (fun w1 H locs hp hP hD hS => ?_)
        obtain ⟨G2, rfl, hA2, hs2, he2, ho2⟩ := hp
        have hP : va_P D vwCl (pw NP ad G2) H := hP
        have hD : va_D A (pw NP ad G2) := hD
        have k67_0 : G2 (5) = .inr (2, [.ref (ad 6), .ref (ad 33), .ref (ad 34), .ref (ad 35), .ref (ad 454), .ref (ad 459), .ref (ad 464), .ref (ad 466), .ref (ad 468), .ref (ad 470), .ref (ad 36), .ref (ad 470), .int (iZ (((n : Nat) : Int))), .int (iZ (1)), .int (iZ (0)), .int (iZ (ml)), .int (iZ (sv))]) := (ho2 (5) (by omega) (by omega) (by omega) (fun j9 _ => by omega)).trans (k50_0)
        have k67_1 : G2 (33) = aR cR (6) (fun i => some (ad (37 + 66 * ρ i))) := (ho2 (33) (by omega) (by omega) (by omega) (fun j9 _ => by omega)).trans (k50_1)
        have k67_2 : G2 (6) = .inr (0, [.ref (ad 7), .ref (ad 10), .ref (ad 19), .ref (ad 21), .ref (ad 23), .ref (ad 25), .ref (ad 27), .ref (ad 29), .ref (ad 31)]) := (ho2 (6) (by omega) (by omega) (by omega) (fun j9 _ => by omega)).trans (k50_3)
        have k67_3 : G2 (2) = .inr (4, [.ref (ad 3), .ref (ad 4), .int (iZ (((n : Nat) : Int)))]) := (ho2 (2) (by omega) (by omega) (by omega) (fun j9 _ => by omega)).trans (k50_4)
        have k67_4 : G2 (38 + 66 * ρ i) = aR cE (7) (fun j => some (ad (40 + 66 * ρ i + 8 * j))) := (ho2 (38 + 66 * ρ i) (by omega) (by omega) (by omega) (fun j9 _ => by omega)).trans (k50_5)
        have k67_5 : G2 (37 + 66 * ρ i) = .inr (8, [.ref (ad (38 + 66 * ρ i)), .ref (ad (39 + 66 * ρ i)), .ref (ad (96 + 66 * ρ i)), .int (iZ ((-1)))]) := (ho2 (37 + 66 * ρ i) (by omega) (by omega) (by omega) (fun j9 _ => by omega)).trans (he50)
        refine lv_iconst (v := iZ 0) hx hb dX2_begin_70 rfl ?_
        refine zr_eqi (((0 : Nat) : Int)) (by rfl) ?_
        refine lv_istore (lv' := [(4, .int (iZ (((0 : Nat) : Int)))), (3, .ref (ad (37 + 66 * ρ i))), (2, .int (iZ (((i : Nat) : Int)))), (0, .ref (ad 5)), (1, .ref (ad 2))]) hx hb dX2_begin_71 hl (by decide) rfl (fun ls hl => ?_)
        have ihO := ih
        have hQ2 : pEq cJ ad G2 n V := hQ9.keep ((ho2 _ (by omega) (by omega) (by omega) (fun j9 _ => by omega)).trans ((ho50 _ (by omega)).trans (hof (2) (by omega)))) ((ho2 _ (by omega) (by omega) (by omega) (fun j9 _ => by omega)).trans ((ho50 _ (by omega)).trans (hof (3) (by omega)))) ((ho2 _ (by omega) (by omega) (by omega) (fun j9 _ => by omega)).trans ((ho50 _ (by omega)).trans (hof (4) (by omega))))
        have jlp : ∀ (t : Nat) (j : Nat) (G3 : Nat → va_E) (H : Heap) (locs : List Loc) (ls : Array Slot), (j + t = n + 1) → (∀ j9 : Nat, j9 < j → pFr cI ad G3 (43 + 66 * ρ i + 8 * j9) 80 (V (7 * i + j9))) → (∀ j9 : Nat, j ≤ j9 → j9 ≤ n → pFh cI ad G3 (43 + 66 * ρ i + 8 * j9) 80) → (∀ i9 : Nat, (∀ j9 : Nat, j9 ≤ n → i9 < 43 + 66 * ρ i + 8 * j9 ∨ 47 + 66 * ρ i + 8 * j9 < i9) → G3 i9 = G2 i9) →  va_P D vwCl (pw NP ad G3) H → va_D A (pw NP ad G3) → va_S A s.heap H locs → lv_has ls 5 [(4, .int (iZ (((j : Nat) : Int)))), (3, .ref (ad (37 + 66 * ρ i))), (2, .int (iZ (((i : Nat) : Int)))), (0, .ref (ad 5)), (1, .ref (ad 2))] → W zp l ze (zRm 5 180) s zm args below meth zc H locs 0 0 Q (F0 zm 73 ls []) := by
          intro t
          induction t with
          | zero =>
            intro j G3 H locs ls hjt hnew hold hoj hP hD hS hl
            refine lv_iload hx hb dX2_begin_73 (lv_at hl 0 rfl) ?_
            refine lv_aload_n hx hb dX2_begin_75 rfl (lv_at hl 3 rfl) ?_
            refine va_get (D := D) (ci := 2) (v := .int (iZ (((n : Nat) : Int)))) (C := RX2) (T := TX2) (N := 17) hx hb hts hin2 hown hK hP (5) (pw_at (by omega) ((hoj (5) (fun j9 _ => by omega)).trans ((ho2 5 (by omega) (by omega) (by omega) (fun j9 _ => by omega)).trans ((ho50 5 (by omega)).trans hel1)))) rfl 12 (by decide) q_f_RX2_85_Elimination_n_I (fun _ h9 => h9) rfl dX2_begin_76 ?_
            refine zr_icmp_gt hx hb 102 ⟨by omega, by omega⟩ ⟨by omega, by omega⟩ dX2_begin_79 (by decide) (fun h_79 => ?_) (fun h_79 => ?_)
            · refine lv_iinc (v := iZ (((i + 1 : Nat) : Int))) (lv' := [(2, .int (iZ (((i + 1 : Nat) : Int)))), (4, .int (iZ (((j : Nat) : Int)))), (3, .ref (ad (37 + 66 * ρ i))), (0, .ref (ad 5)), (1, .ref (ad 2))]) hx hb dX2_begin_102 hl (k := 2) rfl (by rw [show ((i + 1 : Nat) : Int) = ((i : Nat) : Int) + 1 by omega]; exact iZ_add _ _) (by decide) rfl (fun ls hl => ?_)
              refine lv_goto (tgt := 33) hx hb dX2_begin_105 (by decide) ?_
              exact ihO (i + 1) G3 H locs ls (by omega) (((hoj (5) (fun j9 _ => by omega)).trans ((ho2 (5) (by omega) (by omega) (by omega) (fun j9 _ => by omega)).trans (ho50 (5) (by omega)))).trans hel1) (hA2.keep (fun k q1 q2 => hoj (k) (fun j9 _ => by omega))) (hHb.upd (fun q hq => by by_cases w : q = ρ i; (rw [w]; exact Or.inr ⟨-1, (hoj (37 + 66 * ρ i) (fun j9 _ => by omega)).trans ((ho2 _ (by omega) (by omega) (by omega) (fun j9 _ => by omega)).trans he50)⟩); rcases Nat.lt_trichotomy q (ρ i) with w3 | w3 | w3 <;> exact Or.inl ((hoj (37 + 66 * q) (fun j9 _ => by omega)).trans ((ho2 (37 + 66 * q) (by omega) (by omega) (by omega) (fun j9 _ => by omega)).trans (ho50 (37 + 66 * q) (by omega))))) (fun q j8 hq hj => by by_cases w : q = ρ i ∧ j8 ≤ n; (rw [w.1]; exact Or.inr ((he2 j8 w.2).has.keep (fun i9 q1 q2 => hoj (i9) (fun j9 _ => by omega)))); rcases Nat.lt_trichotomy q (ρ i) with w3 | w3 | w3 <;> exact Or.inl (fun i9 q1 q2 => (hoj (i9) (fun j9 _ => by omega)).trans ((ho2 (i9) (by omega) (by omega) (by omega) (fun j9 _ => by omega)).trans (ho50 (i9) (by omega))))) (fun q j8 hq hj => by by_cases w : q = ρ i ∧ j8 ≤ n; (rw [w.1]; exact Or.inr (hnew j8 (by omega)).has); rcases Nat.lt_trichotomy q (ρ i) with w3 | w3 | w3 <;> exact Or.inl (fun i9 q1 q2 => (hoj (i9) (fun j9 _ => by omega)).trans ((ho2 (i9) (by omega) (by omega) (by omega) (fun j9 _ => by omega)).trans (ho50 (i9) (by omega))))) (fun q hq => by by_cases w : q = ρ i; (rw [w]; exact Or.inr (hs2.has.keep (hoj (_) (fun j9 _ => by omega)) (hoj (_) (fun j9 _ => by omega)))); rcases Nat.lt_trichotomy q (ρ i) with w3 | w3 | w3 <;> exact Or.inl (fun i9 q1 q2 => (hoj (i9) (fun j9 _ => by omega)).trans ((ho2 (i9) (by omega) (by omega) (by omega) (fun j9 _ => by omega)).trans (ho50 (i9) (by omega))))) (fun q hq => by rcases Nat.lt_trichotomy q (ρ i) with w3 | w3 | w3 <;> exact Or.inl (fun i9 q1 q2 => (hoj (i9) (fun j9 _ => by omega)).trans ((ho2 (i9) (by omega) (by omega) (by omega) (fun j9 _ => by omega)).trans (ho50 (i9) (by omega)))))) (fun r9 h => by rcases Nat.lt_trichotomy r9 (ρ i) with w3 | w3 | w3 <;> exact ⟨((hoj (38 + 66 * r9) (fun j9 _ => by omega)).trans ((ho2 (38 + 66 * r9) (by omega) (by omega) (by omega) (fun j9 _ => by omega)).trans (ho50 (38 + 66 * r9) (by omega)))).trans (hAr r9 h).1, ((hoj (39 + 66 * r9) (fun j9 _ => by omega)).trans ((ho2 (39 + 66 * r9) (by omega) (by omega) (by omega) (fun j9 _ => by omega)).trans (ho50 (39 + 66 * r9) (by omega)))).trans (hAr r9 h).2⟩) (fun i9 h => by by_cases w : i9 = i; (subst w; exact ⟨(hoj (_) (fun j9 _ => by omega)).trans ((ho2 _ (by omega) (by omega) (by omega) (fun j9 _ => by omega)).trans he50), (fun j8 h1 h2 => (he2 j8 h2).keep (fun k q1 q2 => hoj (k) (fun j9 _ => by omega))), (fun j8 h1 => hnew j8 (by omega)), hs2.keep (hoj (_) (fun j9 _ => by omega)) (hoj (_) (fun j9 _ => by omega))⟩); (have hρ9 := hst.2.2.2.2.1 i9 (by omega)); (have hne := hst.2.2.2.2.2 i9 i (by omega) (by omega) w); rcases Nat.lt_or_gt_of_ne hne with w3 | w3 <;> exact (hRw i9 (by omega)).keep hn (fun k q1 q2 => (hoj (k) (fun j9 _ => by omega)).trans ((ho2 (k) (by omega) (by omega) (by omega) (fun j9 _ => by omega)).trans (ho50 (k) (by omega))))) (fun i9 h => ((hoj (i9) (fun j9 _ => by omega)).trans ((ho2 (i9) (by omega) (by omega) (by omega) (fun j9 _ => by omega)).trans (ho50 (i9) (by omega)))).trans (hof i9 h)) hP hD hS (lv_sub hl [0, 3, 4] rfl)
            · exfalso; omega
          | succ t ih =>
            intro j G3 H locs ls hjt hnew hold hoj hP hD hS hl
            refine lv_iload hx hb dX2_begin_73 (lv_at hl 0 rfl) ?_
            refine lv_aload_n hx hb dX2_begin_75 rfl (lv_at hl 3 rfl) ?_
            refine va_get (D := D) (ci := 2) (v := .int (iZ (((n : Nat) : Int)))) (C := RX2) (T := TX2) (N := 17) hx hb hts hin2 hown hK hP (5) (pw_at (by omega) ((hoj (5) (fun j9 _ => by omega)).trans ((ho2 5 (by omega) (by omega) (by omega) (fun j9 _ => by omega)).trans ((ho50 5 (by omega)).trans hel1)))) rfl 12 (by decide) q_f_RX2_85_Elimination_n_I (fun _ h9 => h9) rfl dX2_begin_76 ?_
            refine zr_icmp_gt hx hb 102 ⟨by omega, by omega⟩ ⟨by omega, by omega⟩ dX2_begin_79 (by decide) (fun h_79 => ?_) (fun h_79 => ?_)
            · exfalso; omega
            · refine lv_aload_n hx hb dX2_begin_82 rfl (lv_at hl 4 rfl) ?_
              refine lv_iload_n hx hb dX2_begin_83 rfl (lv_at hl 2 rfl) ?_
              refine lv_iload hx hb dX2_begin_84 (lv_at hl 0 rfl) ?_
              refine lv_aload_n hx hb dX2_begin_86 rfl (lv_at hl 1 rfl) ?_
              refine va_getN (D := D) (ci := 8) (v := .ref (ad (39 + 66 * ρ i))) (C := RX8) (T := TX8) (N := 4) hx hb hts hin8 hown hK hP (37 + 66 * ρ i) (pw_at (by omega) ((hoj (37 + 66 * ρ i) (fun j9 _ => by omega)).trans ((ho2 (37 + 66 * ρ i) (by omega) (by omega) (by omega) (fun j9 _ => by omega)).trans he50))) rfl 1 (by decide) (hN.F 17 rfl) (fun _ h9 => h9) rfl dX2_begin_87 ?_
              refine lv_iload hx hb dX2_begin_90 (lv_at hl 0 rfl) ?_
              refine zr_aald hx hb hK hP (39 + 66 * ρ i) 3 (pw_at (by omega) ((hoj (39 + 66 * ρ i) (fun j9 _ => by omega)).trans ((ho2 (39 + 66 * ρ i) (by omega) (by omega) (by omega) (fun j9 _ => by omega)).trans ((ho50 (39 + 66 * ρ i) (by omega)).trans (hAr (ρ i) hρi).2)))) rfl (j) (by omega) (by omega) (by omega) (v := ad (43 + 66 * ρ i + 8 * j)) (rfl) dX2_begin_92 ?_
              refine zc_Vv (As := [.int (iZ (((i : Nat) : Int))), .int (iZ (((j : Nat) : Int))), .ref (ad (43 + 66 * ρ i + 8 * j))]) (rest := []) (wr := []) ⟨hx, hb, hml, hown, hts⟩ (p_show l D cI cJ cE cF cR NP ad G3 n i j (43 + 66 * ρ i + 8 * j) 80 V (hQ2.keep (hoj (_) (fun j9 _ => by omega)) (hoj (_) (fun j9 _ => by omega)) (hoj (_) (fun j9 _ => by omega))) (hold j (Nat.le_refl _) (by omega)) (by omega) (by omega) hn (by decide) (by decide) (by omega) (by omega)) (cwV 3 hts gX2_begin_X4_show rfl rfl rfl (by decide +kernel) ⟨Nat.le_of_ble_eq_true rfl, Nat.le_of_ble_eq_true rfl⟩) hN hK hP hD hS hA (List.range NP) [] (pw_all _ _ _) rfl (pw_nd _) rfl (fun _ h9 => nomatch h9) (q0 := 2) (ci := 4) rfl rfl (pw_at (by omega) ((hoj (2) (fun j9 _ => by omega)).trans hQ2.1)) rfl hl.1 (Nat.le_of_ble_eq_true rfl) dX2_begin_93 ⟨by decide, by decide⟩ (fun w1 H locs hp hP hD hS => ?_)
              obtain ⟨G4, rfl, hc4, ho4⟩ := hp
              have hP : va_P D vwCl (pw NP ad G4) H := hP
              have hD : va_D A (pw NP ad G4) := hD
              refine lv_iinc (v := iZ (((j + 1 : Nat) : Int))) (lv' := [(4, .int (iZ (((j + 1 : Nat) : Int)))), (3, .ref (ad (37 + 66 * ρ i))), (2, .int (iZ (((i : Nat) : Int)))), (0, .ref (ad 5)), (1, .ref (ad 2))]) hx hb dX2_begin_96 hl (k := 0) rfl (by rw [show ((j + 1 : Nat) : Int) = ((j : Nat) : Int) + 1 by omega]; exact iZ_add _ _) (by decide) rfl (fun ls hl => ?_)
              refine lv_goto (tgt := 73) hx hb dX2_begin_99 (by decide) ?_
              exact ih (j + 1) G4 H locs ls (by omega) (fun j9 h1 => by by_cases w : j9 = j; (subst w; exact hc4); exact (hnew j9 (by omega)).keep (fun i9 q1 q2 => ho4 i9 (by omega) (by omega) (by omega) (by omega) (by omega))) (fun j9 h1 h2 => (hold j9 (by omega) h2).keep (fun i9 q1 q2 => ho4 i9 (by omega) (by omega) (by omega) (by omega) (by omega))) (fun i9 h => (ho4 i9 (by have := h j (by omega); omega) (by have := h j (by omega); omega) (by have := h j (by omega); omega) (by have := h j (by omega); omega) (by have := h j (by omega); omega)).trans (hoj i9 h)) hP hD hS (lv_sub hl [0, 1, 2, 3, 4] rfl)
        exact jlp (n + 1) 0 G2 H locs ls (by omega) (fun j9 h => absurd h (Nat.not_lt_zero j9)) (fun j9 _ h => ((hb1 j9 (by omega)).2.keep (fun i9 q1 q2 => (ho2 i9 (by omega) (by omega) (by omega) (fun j8 _ => by omega)).trans (ho50 i9 (by omega))))) (fun i9 _ => rfl) hP hD hS (lv_sub hl [0, 1, 2, 3, 4] rfl)
  refine lv_aload_n hx hb dX2_begin_0 rfl (lv_at hl 0 rfl) ?_
  refine lv_aload_n hx hb dX2_begin_1 rfl (lv_at hl 1 rfl) ?_
  refine va_getN (D := D) (ci := 4) (v := .int (iZ (((n : Nat) : Int)))) (C := RX4) (T := TX4) (N := 3) hx hb hts hin4 hown hK hP (2) (pw_at (by omega) (hQ9.1)) rfl 2 (by decide) (hN.F 1 rfl) (fun _ h9 => h9) rfl dX2_begin_2 ?_
  refine lv_bipush (v := iZ 6) hx hb dX2_begin_5 (by decide) ?_
  refine zr_mmin hx hb (hml.trans hl.1.symm) hown q_methodLink_RX2_148_Lib_Math_min_name q_static_Lib_Math_min_name q_initialized_java_lang_Math q_code_Lib_Math_min_name_Lib_Math_min_code_2_some_in (Nat.le_of_ble_eq_true rfl) (Nat.le_of_ble_eq_true rfl) (Nat.zero_le _) (Nat.zero_le _) ⟨by omega, by omega⟩ (by decide) dX2_begin_7 ?_
  refine zr_eqi (((n : Nat) : Int)) (by split <;> omega) ?_
  refine va_put (D := D) (ci := 2) (v := .int (iZ (((n : Nat) : Int)))) (ty := tyX2 12) (C := RX2) (T := TX2) (N := 17) hx hb hts hin2 tyX2 tyX2_ok nmX2 hown hK hP hD hS (5) (pw_at (by omega) (hel)) rfl 12 (by decide) q_f_RX2_85_Elimination_n_I (fun _ h9 => h9) rfl (tyX2_ok 12 (by decide)) rfl rfl (Nat.le_of_ble_eq_true rfl) dX2_begin_10 (fun H locs hP hD hS => ?_)
  rw [pw_set] at hP hD
  obtain ⟨G_10, hg10⟩ : ∃ g : Nat → va_E, g = zu G (5) (.inr (2, [.ref (ad 6), .ref (ad 33), .ref (ad 34), .ref (ad 35), .ref (ad 454), .ref (ad 459), .ref (ad 464), .ref (ad 466), .ref (ad 468), .ref (ad 470), .ref (ad 36), .ref (ad L9), .int (iZ (((n : Nat) : Int))), .int (iZ (tn)), .int (iZ (pv)), .int (iZ (ml)), .int (iZ (sv))])) := ⟨_, rfl⟩
  have hP : va_P D vwCl (pw NP ad G_10) H := by rw [hg10]; exact hP
  have hD : va_D A (pw NP ad G_10) := by rw [hg10]; exact hD
  have ho10 : ∀ k : Nat, k ≠ 5 → G_10 k = G k := fun k hk => by rw [hg10]; exact zu_n _ _ hk
  have he10 : G_10 (5) = .inr (2, [.ref (ad 6), .ref (ad 33), .ref (ad 34), .ref (ad 35), .ref (ad 454), .ref (ad 459), .ref (ad 464), .ref (ad 466), .ref (ad 468), .ref (ad 470), .ref (ad 36), .ref (ad L9), .int (iZ (((n : Nat) : Int))), .int (iZ (tn)), .int (iZ (pv)), .int (iZ (ml)), .int (iZ (sv))]) := by rw [hg10]; exact zu_s _ _ _
  have k10_1 : G_10 (2) = .inr (4, [.ref (ad 3), .ref (ad 4), .int (iZ (((n : Nat) : Int)))]) := (ho10 (2) (by omega)).trans (hQ9.1)
  refine lv_aload_n hx hb dX2_begin_13 rfl (lv_at hl 0 rfl) ?_
  refine lv_iconst (v := iZ 1) hx hb dX2_begin_14 rfl ?_
  refine va_put (D := D) (ci := 2) (v := .int (iZ (1))) (ty := tyX2 13) (C := RX2) (T := TX2) (N := 17) hx hb hts hin2 tyX2 tyX2_ok nmX2 hown hK hP hD hS (5) (pw_at (by omega) (he10)) rfl 13 (by decide) q_f_RX2_88_Elimination_turn_I (fun _ h9 => h9) rfl (tyX2_ok 13 (by decide)) rfl rfl (Nat.le_of_ble_eq_true rfl) dX2_begin_15 (fun H locs hP hD hS => ?_)
  rw [pw_set] at hP hD
  obtain ⟨G_15, hg15⟩ : ∃ g : Nat → va_E, g = zu G_10 (5) (.inr (2, [.ref (ad 6), .ref (ad 33), .ref (ad 34), .ref (ad 35), .ref (ad 454), .ref (ad 459), .ref (ad 464), .ref (ad 466), .ref (ad 468), .ref (ad 470), .ref (ad 36), .ref (ad L9), .int (iZ (((n : Nat) : Int))), .int (iZ (1)), .int (iZ (pv)), .int (iZ (ml)), .int (iZ (sv))])) := ⟨_, rfl⟩
  have hP : va_P D vwCl (pw NP ad G_15) H := by rw [hg15]; exact hP
  have hD : va_D A (pw NP ad G_15) := by rw [hg15]; exact hD
  have ho15 : ∀ k : Nat, k ≠ 5 → G_15 k = G_10 k := fun k hk => by rw [hg15]; exact zu_n _ _ hk
  have he15 : G_15 (5) = .inr (2, [.ref (ad 6), .ref (ad 33), .ref (ad 34), .ref (ad 35), .ref (ad 454), .ref (ad 459), .ref (ad 464), .ref (ad 466), .ref (ad 468), .ref (ad 470), .ref (ad 36), .ref (ad L9), .int (iZ (((n : Nat) : Int))), .int (iZ (1)), .int (iZ (pv)), .int (iZ (ml)), .int (iZ (sv))]) := by rw [hg15]; exact zu_s _ _ _
  have k15_0 : G_15 (2) = .inr (4, [.ref (ad 3), .ref (ad 4), .int (iZ (((n : Nat) : Int)))]) := (ho15 (2) (by omega)).trans (k10_1)
  refine lv_aload_n hx hb dX2_begin_18 rfl (lv_at hl 0 rfl) ?_
  refine lv_iconst (v := iZ 0) hx hb dX2_begin_19 rfl ?_
  refine va_put (D := D) (ci := 2) (v := .int (iZ (0))) (ty := tyX2 14) (C := RX2) (T := TX2) (N := 17) hx hb hts hin2 tyX2 tyX2_ok nmX2 hown hK hP hD hS (5) (pw_at (by omega) (he15)) rfl 14 (by decide) q_f_RX2_91_Elimination_pivots_I (fun _ h9 => h9) rfl (tyX2_ok 14 (by decide)) rfl rfl (Nat.le_of_ble_eq_true rfl) dX2_begin_20 (fun H locs hP hD hS => ?_)
  rw [pw_set] at hP hD
  obtain ⟨G_20, hg20⟩ : ∃ g : Nat → va_E, g = zu G_15 (5) (.inr (2, [.ref (ad 6), .ref (ad 33), .ref (ad 34), .ref (ad 35), .ref (ad 454), .ref (ad 459), .ref (ad 464), .ref (ad 466), .ref (ad 468), .ref (ad 470), .ref (ad 36), .ref (ad L9), .int (iZ (((n : Nat) : Int))), .int (iZ (1)), .int (iZ (0)), .int (iZ (ml)), .int (iZ (sv))])) := ⟨_, rfl⟩
  have hP : va_P D vwCl (pw NP ad G_20) H := by rw [hg20]; exact hP
  have hD : va_D A (pw NP ad G_20) := by rw [hg20]; exact hD
  have ho20 : ∀ k : Nat, k ≠ 5 → G_20 k = G_15 k := fun k hk => by rw [hg20]; exact zu_n _ _ hk
  have he20 : G_20 (5) = .inr (2, [.ref (ad 6), .ref (ad 33), .ref (ad 34), .ref (ad 35), .ref (ad 454), .ref (ad 459), .ref (ad 464), .ref (ad 466), .ref (ad 468), .ref (ad 470), .ref (ad 36), .ref (ad L9), .int (iZ (((n : Nat) : Int))), .int (iZ (1)), .int (iZ (0)), .int (iZ (ml)), .int (iZ (sv))]) := by rw [hg20]; exact zu_s _ _ _
  have k20_0 : G_20 (2) = .inr (4, [.ref (ad 3), .ref (ad 4), .int (iZ (((n : Nat) : Int)))]) := (ho20 (2) (by omega)).trans (k15_0)
  refine lv_aload_n hx hb dX2_begin_23 rfl (lv_at hl 0 rfl) ?_
  refine lv_aload_n hx hb dX2_begin_24 rfl (lv_at hl 0 rfl) ?_
  refine va_get (D := D) (ci := 2) (v := .ref (ad 470)) (C := RX2) (T := TX2) (N := 17) hx hb hts hin2 hown hK hP (5) (pw_at (by omega) (he20)) rfl 9 (by decide) q_f_RX2_67_Elimination_one_LEntry (fun _ h9 => h9) rfl dX2_begin_25 ?_
  refine va_put (D := D) (ci := 2) (v := .ref (ad 470)) (ty := tyX2 11) (C := RX2) (T := TX2) (N := 17) hx hb hts hin2 tyX2 tyX2_ok nmX2 hown hK hP hD hS (5) (pw_at (by omega) (he20)) rfl 11 (by decide) q_f_RX2_82_Elimination_lastPivot_LEntry (fun _ h9 => h9) rfl (tyX2_ok 11 (by decide)) rfl rfl (Nat.le_of_ble_eq_true rfl) dX2_begin_28 (fun H locs hP hD hS => ?_)
  rw [pw_set] at hP hD
  obtain ⟨G_28, hg28⟩ : ∃ g : Nat → va_E, g = zu G_20 (5) (.inr (2, [.ref (ad 6), .ref (ad 33), .ref (ad 34), .ref (ad 35), .ref (ad 454), .ref (ad 459), .ref (ad 464), .ref (ad 466), .ref (ad 468), .ref (ad 470), .ref (ad 36), .ref (ad 470), .int (iZ (((n : Nat) : Int))), .int (iZ (1)), .int (iZ (0)), .int (iZ (ml)), .int (iZ (sv))])) := ⟨_, rfl⟩
  have hP : va_P D vwCl (pw NP ad G_28) H := by rw [hg28]; exact hP
  have hD : va_D A (pw NP ad G_28) := by rw [hg28]; exact hD
  have ho28 : ∀ k : Nat, k ≠ 5 → G_28 k = G_20 k := fun k hk => by rw [hg28]; exact zu_n _ _ hk
  have he28 : G_28 (5) = .inr (2, [.ref (ad 6), .ref (ad 33), .ref (ad 34), .ref (ad 35), .ref (ad 454), .ref (ad 459), .ref (ad 464), .ref (ad 466), .ref (ad 468), .ref (ad 470), .ref (ad 36), .ref (ad 470), .int (iZ (((n : Nat) : Int))), .int (iZ (1)), .int (iZ (0)), .int (iZ (ml)), .int (iZ (sv))]) := by rw [hg28]; exact zu_s _ _ _
  have k28_0 : G_28 (2) = .inr (4, [.ref (ad 3), .ref (ad 4), .int (iZ (((n : Nat) : Int)))]) := (ho28 (2) (by omega)).trans (k20_0)
  refine lv_iconst (v := iZ 0) hx hb dX2_begin_31 rfl ?_
  refine zr_eqi (((0 : Nat) : Int)) (by rfl) ?_
  refine lv_istore_n (lv' := [(2, .int (iZ (((0 : Nat) : Int)))), (0, .ref (ad 5)), (1, .ref (ad 2))]) hx hb dX2_begin_32 rfl hl (by decide) rfl (fun ls hl => ?_)
  have hall : ∀ i9 : Nat, i9 ≠ 5 → G_28 i9 = G i9 := fun i9 h => (ho28 i9 h).trans ((ho20 i9 h).trans ((ho15 i9 h).trans (ho10 i9 h)))
  exact lp9 n 0 G_28 H locs ls (by omega) he28 (hA0.keep (fun k q1 q2 => hall k (by omega))) (hHb0.keep (fun i9 q1 q2 => hall i9 (by omega))) (fun r9 h => ⟨(hall _ (by omega)).trans (hst.2.2.2.1 r9 h).1, (hall _ (by omega)).trans (hst.2.2.2.1 r9 h).2⟩) (fun i9 h => absurd h (Nat.not_lt_zero i9)) (fun i9 h => hall i9 (by omega)) hP hD hS (lv_sub hl [0, 1, 2] rfl)
