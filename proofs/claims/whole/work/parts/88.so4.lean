
theorem mta_le9 {M : Nat → Nat → Rat} {n b : Nat} (hn : n ≤ 6) (h : ∀ i j : Nat, i < n → j ≤ n → rl (M i j) ≤ b) : pe_mt n M ≤ b * 7 * n := by
  have h1 : ∀ i : Nat, i < n → ∀ c : Nat, c ≤ n + 1 → mtr (pe_fl M) i c ≤ b * c := by
    intro i hi c
    induction c with
    | zero => intro _; exact Nat.le_refl 0
    | succ c ih =>
      intro hc
      have q1 := ih (by omega)
      have q2 := h i c hi (by omega)
      have q3 : pe_fl M (7 * i + c) = M i c := by show M ((7 * i + c) / 7) ((7 * i + c) % 7) = M i c; rw [show (7 * i + c) / 7 = i by omega, show (7 * i + c) % 7 = c by omega]
      show mtr (pe_fl M) i c + rl (pe_fl M (7 * i + c)) ≤ b * (c + 1)
      rw [q3, Nat.mul_add]
      omega
  have h2 : ∀ i : Nat, i ≤ n → mta (pe_fl M) n i ≤ b * 7 * i := by
    intro i
    induction i with
    | zero => intro _; exact Nat.le_refl 0
    | succ i ih =>
      intro hi
      have q1 := ih (by omega)
      have q2 := h1 i (by omega) (n + 1) (Nat.le_refl _)
      have q3 : b * (n + 1) ≤ b * 7 := Nat.mul_le_mul_left b (by omega)
      show mta (pe_fl M) n i + mtr (pe_fl M) i (n + 1) ≤ b * 7 * (i + 1)
      rw [Nat.mul_add]
      omega
  exact h2 n (Nat.le_refl n)
theorem pe_Hle {V : Nat → Rat} {n : Nat} (hT : pe_T V n) (h1n : 1 ≤ n) (hn : n ≤ 6) : ∀ c : Nat, c ≤ n → peH (pe V n c) ≤ 15120 := by
  have hm : ∀ c : Nat, c ≤ n → pe_mt n (peM (pe V n c)) ≤ 15120 := by
    intro c hc
    have hV := pe_ok hT h1n hn c hc
    have q := mta_le9 (M := peM (pe V n c)) (b := 360) hn (fun i j hi hj => Nat.le_trans (rl_b (peV_b hT hn hV hi hj).1 (peV_b hT hn hV hi hj).2) (by decide))
    omega
  intro c
  induction c with
  | zero => intro hc; exact hm 0 hc
  | succ c ih =>
    intro hc
    have h1 := ih (by omega)
    by_cases w : pe_row (pe V n c) n c < n
    · have h2 := hm (c + 1) hc
      have e : pe V n (c + 1) = pe_one V n c (pe V n c) := rfl
      have eH : peH (pe V n (c + 1)) = max (peH (pe V n c)) (pe_mt n (peM (pe V n (c + 1)))) := by rw [e]; unfold pe_one; rw [if_pos w]; rfl
      rw [eH]
      omega
    · rw [pe_n w]
      exact h1
theorem pe_H0 (V : Nat → Rat) (n : Nat) : mta V n n ≤ peH (pe V n n) := by
  have h1 := pe_Hm V n 0 n
  have h2 : peH (pe V n 0) = mta V n n := by show mta (pe_fl (fun i j => V (7 * i + j))) n n = _; rw [pe_fl_un]
  rw [← h2]
  rw [Nat.zero_add] at h1
  exact h1
theorem pCs.anew {cI cJ cE cF cR : ClassId} {NP : Nat} {ad : Nat → Nat} {G G' : Nat → va_E} {V V' : Nat → Rat} {n n' : Nat} {wd el : Int} (h : pCs cI cJ cE cF cR NP ad G V n wd el) (h1 : G' 1 = .inr (10, [.ref (ad 2), .ref (ad 5), .ref (ad 473), .ref (ad 475), .int (iZ (0)), .int (iZ (0))])) (hn : 1 ≤ n' ∧ n' ≤ 6 ∧ pe_T V' n') (hQ : pEq cJ ad G' n' V') (hk : ∀ i : Nat, 4 < i → i < 480 → G' i = G i) : pCs cI cJ cE cF cR NP ad G' V' n' 0 0 := by
  obtain ⟨hso, ht, hQ9, ⟨hsh, hre, hsq⟩, ρ, PR, ⟨hst9, hwk, hHb, hpr, L8, n8, tn8, pv8, ml8, sv8, hel8⟩, hrun⟩ := h
  exact ⟨h1, hn, hQ, ⟨hsh.keep (fun i _ _ => hk i (by omega) (by omega)), (hk 473 (by omega) (by omega)).trans hre, by rw [hk 474 (by omega) (by omega)]; exact hsq⟩, ρ, PR, ⟨hst9.keep (hk 33 (by omega) (by omega)) (hk 34 (by omega) (by omega)) (hk 36 (by omega) (by omega)) (fun r hr => ⟨hk _ (by omega) (by omega), hk _ (by omega) (by omega)⟩), hwk.keep (fun i _ => hk i (by omega) (by omega)), hHb.keep (fun i _ _ => hk i (by omega) (by omega)), (hk 35 (by omega) (by omega)).trans hpr, L8, n8, tn8, pv8, ml8, sv8, (hk 5 (by omega) (by omega)).trans hel8⟩, Or.inl ⟨rfl, rfl⟩⟩

theorem pCs.put1 {cI cJ cE cF cR : ClassId} {NP : Nat} {ad : Nat → Nat} {G G' : Nat → va_E} {V : Nat → Rat} {n : Nat} {wd el el' : Int} (h : pCs cI cJ cE cF cR NP ad G V n wd el) (h1 : G' 1 = .inr (10, [.ref (ad 2), .ref (ad 5), .ref (ad 473), .ref (ad 475), .int (iZ (wd)), .int (iZ (el'))])) (hk : ∀ i : Nat, i ≠ 1 → G' i = G i) (he : el' = 0 ∨ (el' = 1 ∧ wd = 1)) : pCs cI cJ cE cF cR NP ad G' V n wd el' := by
  have hg : G' = zu G 1 (.inr (10, [.ref (ad 2), .ref (ad 5), .ref (ad 473), .ref (ad 475), .int (iZ (wd)), .int (iZ (el'))])) := by
    funext i
    by_cases w : i = 1
    · rw [w, zu_s, h1]
    · rw [zu_n _ _ w, hk i w]
  obtain ⟨hso, ht, hQ9, ⟨hsh, hre, hsq⟩, ρ, PR, ⟨hst9, hwk, hHb, hpr, L8, n8, tn8, pv8, ml8, sv8, hel8⟩, hrun⟩ := h
  refine ⟨h1, ht, hQ9.keep (hk 2 (by omega)) (hk 3 (by omega)) (hk 4 (by omega)), ⟨hsh.keep (fun i _ _ => hk i (by omega)), (hk 473 (by omega)).trans hre, by rw [hk 474 (by omega)]; exact hsq⟩, ρ, PR, ⟨hst9.keep (hk 33 (by omega)) (hk 34 (by omega)) (hk 36 (by omega)) (fun r hr => ⟨hk _ (by omega), hk _ (by omega)⟩), hwk.keep (fun i _ => hk i (by omega)), hHb.keep (fun i _ _ => hk i (by omega)), (hk 35 (by omega)).trans hpr, L8, n8, tn8, pv8, ml8, sv8, (hk 5 (by omega)).trans hel8⟩, ?_⟩
  rcases hrun with ⟨q, q'⟩ | ⟨q1, q2, L9, rl, hel9, hPR, hRw, hL, hL9, hun, hvo⟩
  · exact Or.inl ⟨q, by omega⟩
  · exact Or.inr ⟨q1, by omega, L9, rl, (hk 5 (by omega)).trans hel9, hPR, fun i9 hi9 => (hRw i9 hi9).keep ht.2.1 (fun i _ _ => hk i (by omega)), hL.keep (fun i _ _ => hk i (by have := hL9.1; omega)), hL9, fun c8 hc8 => (hun c8 hc8).keep (fun i _ _ => hk i (by omega)), hvo.keep (fun i _ _ => hk i (by omega))⟩
theorem pCs.run2 {cI cJ cE cF cR : ClassId} {NP : Nat} {ad : Nat → Nat} {G G1 G2 G' : Nat → va_E} {V : Nat → Rat} {n L2 rl2 : Nat} {ρ2 : Nat → Nat} {PR2 : Nat → Int} {wd el el' : Int} (h : pCs cI cJ cE cF cR NP ad G V n wd el) (h1 : G' 1 = .inr (10, [.ref (ad 2), .ref (ad 5), .ref (ad 473), .ref (ad 475), .int (iZ (1)), .int (iZ (el'))])) (hel2 : G2 5 = .inr (2, [.ref (ad 6), .ref (ad 33), .ref (ad 34), .ref (ad 35), .ref (ad 454), .ref (ad 459), .ref (ad 464), .ref (ad 466), .ref (ad 468), .ref (ad 470), .ref (ad 36), .ref (ad L2), .int (iZ (((n : Nat) : Int))), .int (iZ (peT (pe V n n))), .int (iZ (((peR (pe V n n) : Nat) : Int))), .int (iZ (((peH (pe V n n) : Nat) : Int))), .int (iZ (pe_svk (peM (pe V n n)) n (peR (pe V n n)) (n - peR (pe V n n))))])) (hst2 : pSt cE cF cR ad G2 ρ2) (hwk2 : pWk cI ad G2) (hHb2 : pHb cI ad G2) (hpr2 : G2 35 = aI cI 6 PR2) (hPR2 : ∀ j9 : Nat, j9 < n → PR2 j9 = peP (pe V n n) j9) (hRw2 : ∀ i9 : Nat, i9 < n → pRw cI ad G2 (ρ2 i9) n (n) (peE (pe V n n) i9) (peM (pe V n n) i9) ((pe_sc V (peI (pe V n n) i9) (n + 1) : Nat) : Int) (if i9 < peR (pe V n n) then ((peC (pe V n n) i9 : Nat) : Int) else -1)) (hL2 : pEn cI ad G2 L2 rl2 (peL (pe V n n) (peR (pe V n n)))) (hLp2 : pLp NP L2 rl2 n) (hun2 : ∀ c8 : Nat, c8 < n → pFr cI ad G2 (98 + 66 * c8) 46 ((fun c8 => if pe_svk (peM (pe V n n)) n (peR (pe V n n)) (n - peR (pe V n n)) = 0 then 0 else pe_x (pe V n n) n c8) c8)) (hvo2 : pFr cI ad G2 454 46 (if peR (pe V n n) = n then pe_dt (peM (pe V n n)) (peT (pe V n n)) n else 0)) (ho2 : ∀ i : Nat, i < 5 ∨ 472 < i → G2 i = G1 i) (ho1 : ∀ i : Nat, i ≠ 1 → G1 i = G i) (hk : ∀ i : Nat, i ≠ 1 → G' i = G2 i) (he : el' = 0 ∨ el' = 1) : pCs cI cJ cE cF cR NP ad G' V n 1 el' := by
  obtain ⟨hso, ht, hQ9, ⟨hsh, hre, hsq⟩, _⟩ := h
  have hk0 : ∀ i : Nat, i ≠ 1 → i < 5 ∨ 472 < i → G' i = G i := fun i q1 q2 => (hk i q1).trans ((ho2 i q2).trans (ho1 i q1))
  exact ⟨h1, ht, hQ9.keep (hk0 2 (by omega) (by omega)) (hk0 3 (by omega) (by omega)) (hk0 4 (by omega) (by omega)), ⟨hsh.keep (fun i _ _ => hk0 i (by omega) (by omega)), (hk0 473 (by omega) (by omega)).trans hre, by rw [hk0 474 (by omega) (by omega)]; exact hsq⟩, ρ2, PR2, ⟨hst2.keep (hk 33 (by omega)) (hk 34 (by omega)) (hk 36 (by omega)) (fun r hr => ⟨hk _ (by omega), hk _ (by omega)⟩), hwk2.keep (fun i _ => hk i (by omega)), hHb2.keep (fun i _ _ => hk i (by omega)), (hk 35 (by omega)).trans hpr2, L2, _, _, _, _, _, (hk 5 (by omega)).trans hel2⟩, Or.inr ⟨rfl, he, L2, rl2, (hk 5 (by omega)).trans hel2, hPR2, fun i9 hi9 => (hRw2 i9 hi9).keep ht.2.1 (fun i _ _ => hk i (by omega)), hL2.keep (fun i _ _ => hk i (by have := hLp2.1; omega)), hLp2, fun c8 hc8 => (hun2 c8 hc8).keep (fun i _ _ => hk i (by omega)), hvo2.keep (fun i _ _ => hk i (by omega))⟩⟩
set_option maxHeartbeats 4000000 in
set_option maxRecDepth 100000 in
/-- LimbSolver.size -/
theorem p_size (l : Launch) (D : va_G) (cI cJ cE cF cR : ClassId) (hst : l.stackTraces = false) (NP : Nat) (ad : Nat → Nat) (G : Nat → va_E) (y1 : Int) (V : Nat → Rat) (n : Nat) (wd el : Int) (hC9 : pCs cI cJ cE cF cR NP ad G V n wd el) (hNP : 480 ≤ NP) (hy1 : iR y1) : Xv l D (zty cI cJ cE cF cR) yX10_size wsX10_size ({ frames := 6, cells := 1, slots := 6, locals := 90 } : Room) 1 6 [.ref (ad 1), .int (iZ (y1))] (pw NP ad G) (fun w1 => ∃ G1 : Nat → va_E, w1 = pw NP ad G1 ∧ ¬ (y1 < 1 ∨ 6 < y1) ∧ pCs cI cJ cE cF cR NP ad G1 (fun _ => 0) y1.toNat 0 0 ∧ ∀ i9 : Nat, i9 = 0 ∨ 480 ≤ i9 → G1 i9 = G i9) (fun E => E = "java/lang/IllegalArgumentException" ∧ (y1 < 1 ∨ 6 < y1)) := by
  unfold Xv
  refine zsX (Qc := zQv D _ _) (cc := cX10_size) (maxL := 2) (ret := none) (by decide) rfl (Nat.le_of_ble_eq_true rfl) ?_
  intro zp ze s zm below meth zc ls A args Q hQ hx hb hr hts hown hlk hml hnm hN hX9 hno hA hK hP hD hS hl
  have q_classLink_RX10_46_java_lang_IllegalArgumentExcepti := hts (.classLink RX10 46 "java/lang/IllegalArgumentException") (by decide +kernel)
  have q_initialized_java_lang_IllegalArgumentException := hts (.initialized "java/lang/IllegalArgumentException") (by decide +kernel)
  have q_f_RX10_12_equations_LEquations := hts (.fieldLink RX10 12 "LimbSolver" "equations" "LLimbSolver$Equations;") (by decide +kernel)
  have hin10 : ∀ w ∈ wsX100, w ∈ wsX10_size := by decide +kernel
  have hl : lv_has ls 2 [(0, .ref (ad 1)), (1, .int (iZ (y1)))] := hl
  obtain ⟨hso, ⟨h1n, hn, hT⟩, hQ9, ⟨hsh, hre, hsq⟩, ρ, PR, ⟨hst9, hwk, hHb, hpr, L8, n8, tn8, pv8, ml8, sv8, hel8⟩, hrun⟩ := id hC9
  have hel01 : el = 0 ∨ el = 1 := by rcases hrun with ⟨_, q⟩ | ⟨_, q, _⟩; exact Or.inl q; exact q
  have hy11 := hy1.1
  have hy12 := hy1.2
  refine lv_iload_n hx hb dX10_size_0 rfl (lv_at hl 1 rfl) ?_
  refine lv_iconst (v := iZ 1) hx hb dX10_size_1 rfl ?_
  refine zr_icmp_lt hx hb 11 hy1 (by decide) dX10_size_2 (by decide) (fun h_2 => ?_) (fun h_2 => ?_)
  · exact zr_throw (text := "the size is not 1 .. 6") hQ hx hb hst hown (by decide) q_classLink_RX10_46_java_lang_IllegalArgumentExcepti q_initialized_java_lang_IllegalArgumentException hX9 (by decide) (fun w9 h9 => hts w9 (by unfold wsX10_size; exact List.mem_cons_of_mem _ (List.mem_append_right _ h9))) (by decide +kernel) (by decide +kernel) hK hP hD hS (hl.1.trans hml.symm) dX10_size_11 dX10_size_14 dX10_size_15 dX10_size_17 dX10_size_20 hno (by decide) (Nat.le_of_ble_eq_true rfl) (by decide) (by decide) hlk (⟨rfl, by omega⟩) (by decide) (by decide)
  · refine lv_iload_n hx hb dX10_size_5 rfl (lv_at hl 1 rfl) ?_
    refine lv_bipush (v := iZ 6) hx hb dX10_size_6 (by decide) ?_
    refine zr_icmp_le hx hb 21 hy1 (by decide) dX10_size_8 (by decide) (fun h_8 => ?_) (fun h_8 => ?_)
    · refine lv_aload_n hx hb dX10_size_21 rfl (lv_at hl 0 rfl) ?_
      refine va_get (D := D) (ci := 10) (v := .ref (ad 2)) (C := RX10) (T := TX10) (N := 6) hx hb hts hin10 hown hK hP (1) (pw_at (by omega) (hso)) rfl 0 (by decide) q_f_RX10_12_equations_LEquations (fun _ h9 => h9) rfl dX10_size_22 ?_
      refine lv_iload_n hx hb dX10_size_25 rfl (lv_at hl 1 rfl) ?_
      rw [congrArg iZ (show y1 = ((y1.toNat : Nat) : Int) by omega)]
      refine zc_Vv (As := [.int (iZ (((y1.toNat : Nat) : Int)))]) (rest := []) (wr := []) ⟨hx, hb, hml, hown, hts⟩ (p_restart l D cI cJ cE cF cR NP ad G n y1.toNat V hQ9 (by omega)) (cwV 1 hts gX10_size_X4_restart rfl rfl rfl (by decide +kernel) ⟨Nat.le_of_ble_eq_true rfl, Nat.le_of_ble_eq_true rfl⟩) hN hK hP hD hS hA (List.range NP) [] (pw_all _ _ _) rfl (pw_nd _) rfl (fun _ h9 => nomatch h9) (q0 := 2) (ci := 4) rfl rfl (pw_at (by omega) (hQ9.1)) rfl hl.1 (Nat.le_of_ble_eq_true rfl) dX10_size_26 ⟨by decide, by decide⟩ (fun w1 H locs hp hP hD hS => ?_)
      obtain ⟨G2, rfl, hQ2, ho2⟩ := hp
      have hP : va_P D vwCl (pw NP ad G2) H := hP
      have hD : va_D A (pw NP ad G2) := hD
      have k26_0 : G2 (1) = .inr (10, [.ref (ad 2), .ref (ad 5), .ref (ad 473), .ref (ad 475), .int (iZ (wd)), .int (iZ (el))]) := (ho2 (1) (by omega) (by omega) (by omega)).trans (hso)
      refine lv_aload_n hx hb dX10_size_29 rfl (lv_at hl 0 rfl) ?_
      refine zc_Vv (As := []) (rest := []) (wr := []) ⟨hx, hb, hml, hown, hts⟩ (p_forget l D cI cJ cE cF cR NP ad G2 wd el ((ho2 1 (by omega) (by omega) (by omega)).trans hso) hNP) (cwV 0 hts gX10_size_X10_forget rfl rfl rfl (by decide +kernel) ⟨Nat.le_of_ble_eq_true rfl, Nat.le_of_ble_eq_true rfl⟩) hN hK hP hD hS hA (List.range NP) [] (pw_all _ _ _) rfl (pw_nd _) rfl (fun _ h9 => nomatch h9) (q0 := 1) (ci := 10) rfl rfl (pw_at (by omega) (k26_0)) rfl hl.1 (Nat.le_of_ble_eq_true rfl) dX10_size_30 ⟨by decide, by decide⟩ (fun w1 H locs hp hP hD hS => ?_)
      obtain ⟨G3, rfl, hs3, ho3⟩ := hp
      have hP : va_P D vwCl (pw NP ad G3) H := hP
      have hD : va_D A (pw NP ad G3) := hD
      rw [hQ]
      exact vx_ret (zr_vret rfl hx hb hr hlk dX10_size_33 hK hP hD hS (by omega) (by omega) (⟨G3, rfl, by omega, hC9.anew hs3 ⟨by omega, by omega, pe_T_0 _⟩ (hQ2.keep (ho3 2 (by decide)) (ho3 3 (by decide)) (ho3 4 (by decide))) (fun i q1 q2 => (ho3 i (by omega)).trans (ho2 i (by omega) (by omega) (by omega))), fun i9 q => (ho3 i9 (by omega)).trans (ho2 i9 (by omega) (by omega) (by omega))⟩))
    · exact zr_throw (text := "the size is not 1 .. 6") hQ hx hb hst hown (by decide) q_classLink_RX10_46_java_lang_IllegalArgumentExcepti q_initialized_java_lang_IllegalArgumentException hX9 (by decide) (fun w9 h9 => hts w9 (by unfold wsX10_size; exact List.mem_cons_of_mem _ (List.mem_append_right _ h9))) (by decide +kernel) (by decide +kernel) hK hP hD hS (hl.1.trans hml.symm) dX10_size_11 dX10_size_14 dX10_size_15 dX10_size_17 dX10_size_20 hno (by decide) (Nat.le_of_ble_eq_true rfl) (by decide) (by decide) hlk (⟨rfl, by omega⟩) (by decide) (by decide)

set_option maxHeartbeats 4000000 in
set_option maxRecDepth 100000 in
/-- LimbSolver.set -/
theorem p_set (l : Launch) (D : va_G) (cI cJ cE cF cR : ClassId) (hst : l.stackTraces = false) (NP : Nat) (ad : Nat → Nat) (G : Nat → va_E) (y1 y2 y3 y4 : Int) (V : Nat → Rat) (n : Nat) (wd el : Int) (hC9 : pCs cI cJ cE cF cR NP ad G V n wd el) (hNP : 480 ≤ NP) (hy1 : iR y1) (hy2 : iR y2) (hy3 : iR y3) (hy4 : iR y4) : Xi l D (zty cI cJ cE cF cR) yX10_set wsX10_set ({ frames := 6, cells := 1, slots := 6, locals := 150 } : Room) 1 6 [.ref (ad 1), .int (iZ (y1)), .int (iZ (y2)), .int (iZ (y3)), .int (iZ (y4))] (pw NP ad G) (fun z9 w1 => ∃ G1 : Nat → va_E, w1 = pw NP ad G1 ∧ ¬ (y1 < 0 ∨ (n : Int) ≤ y1 ∨ y2 < 0 ∨ (n : Int) ≤ y2) ∧ y4 ≠ 0 ∧ z9 = ((mta (zu V (7 * y1.toNat + y2.toNat) (mkRat (if y4 < 0 then -y3 else y3) y4.natAbs)) n n : Nat) : Int) ∧ pCs cI cJ cE cF cR NP ad G1 (zu V (7 * y1.toNat + y2.toNat) (mkRat (if y4 < 0 then -y3 else y3) y4.natAbs)) n 0 0 ∧ ∀ i9 : Nat, i9 = 0 ∨ 480 ≤ i9 → G1 i9 = G i9) (fun E => (E = "java/lang/IndexOutOfBoundsException" ∧ (y1 < 0 ∨ (n : Int) ≤ y1 ∨ y2 < 0 ∨ (n : Int) ≤ y2)) ∨ (E = "java/lang/IllegalArgumentException" ∧ ¬ (y1 < 0 ∨ (n : Int) ≤ y1 ∨ y2 < 0 ∨ (n : Int) ≤ y2) ∧ y4 = 0)) := by
  unfold Xi
  refine zsX (Qc := zQi D _ _) (cc := cX10_set) (maxL := 5) (ret := (some .int)) (by decide) rfl (Nat.le_of_ble_eq_true rfl) ?_
  intro zp ze s zm below meth zc ls A args Q hQ hx hb hr hts hown hlk hml hnm hN hX9 hno hA hK hP hD hS hl
  have q_f_RX10_12_equations_LEquations := hts (.fieldLink RX10 12 "LimbSolver" "equations" "LLimbSolver$Equations;") (by decide +kernel)
  have hin10 : ∀ w ∈ wsX100, w ∈ wsX10_set := by decide +kernel
  have q_classLink_RX10_64_java_lang_IndexOutOfBoundsExcept := hts (.classLink RX10 64 "java/lang/IndexOutOfBoundsException") (by decide +kernel)
  have q_initialized_java_lang_IndexOutOfBoundsException := hts (.initialized "java/lang/IndexOutOfBoundsException") (by decide +kernel)
  have q_classLink_RX10_46_java_lang_IllegalArgumentExcepti := hts (.classLink RX10 46 "java/lang/IllegalArgumentException") (by decide +kernel)
  have q_initialized_java_lang_IllegalArgumentException := hts (.initialized "java/lang/IllegalArgumentException") (by decide +kernel)
  have hl : lv_has ls 5 [(0, .ref (ad 1)), (1, .int (iZ (y1))), (2, .int (iZ (y2))), (3, .int (iZ (y3))), (4, .int (iZ (y4)))] := hl
  obtain ⟨hso, ⟨h1n, hn, hT⟩, hQ9, ⟨hsh, hre, hsq⟩, ρ, PR, ⟨hst9, hwk, hHb, hpr, L8, n8, tn8, pv8, ml8, sv8, hel8⟩, hrun⟩ := id hC9
  have hel01 : el = 0 ∨ el = 1 := by rcases hrun with ⟨_, q⟩ | ⟨_, q, _⟩; exact Or.inl q; exact q
  have hy11 := hy1.1
  have hy12 := hy1.2
  have hy21 := hy2.1
  have hy22 := hy2.2
  have hy31 := hy3.1
  have hy32 := hy3.2
  have hy41 := hy4.1
  have hy42 := hy4.2
  refine lv_aload_n hx hb dX10_set_0 rfl (lv_at hl 0 rfl) ?_
  refine va_get (D := D) (ci := 10) (v := .ref (ad 2)) (C := RX10) (T := TX10) (N := 6) hx hb hts hin10 hown hK hP (1) (pw_at (by omega) (hso)) rfl 0 (by decide) q_f_RX10_12_equations_LEquations (fun _ h9 => h9) rfl dX10_set_1 ?_
  refine lv_iload_n hx hb dX10_set_4 rfl (lv_at hl 1 rfl) ?_
  refine zc_Vi (As := [.int (iZ (y1))]) (rest := []) (wr := []) ⟨hx, hb, hml, hown, hts⟩ (p_hasRow l D cI cJ cE cF cR NP ad G n V hQ9 y1 hy1 hn (by omega)) (cwV 1 hts gX10_set_X4_hasRow rfl rfl rfl (by decide +kernel) ⟨Nat.le_of_ble_eq_true rfl, Nat.le_of_ble_eq_true rfl⟩) hN hK hP hD hS hA (List.range NP) [] (pw_all _ _ _) rfl (pw_nd _) rfl (fun _ h9 => nomatch h9) (q0 := 2) (ci := 4) rfl rfl (pw_at (by omega) (hQ9.1)) rfl hl.1 (Nat.le_of_ble_eq_true rfl) dX10_set_5 ⟨by decide, by decide⟩ (fun q5 w1 H locs hz5 hp hP hD hS => ?_)
  obtain ⟨G9, rfl, hr0, ho9⟩ := hp
  obtain rfl : G = G9 := (funext ho9).symm
  have hh5 : ((0 ≤ y1 ∧ y1 < (n : Int)) ∧ q5 = 1) ∨ (¬ (0 ≤ y1 ∧ y1 < (n : Int)) ∧ q5 = 0) := by rw [hr0]; by_cases w : (0 ≤ y1 ∧ y1 < (n : Int)); (rw [if_pos w]; exact Or.inl ⟨w, rfl⟩); (rw [if_neg w]; exact Or.inr ⟨w, rfl⟩)
  have hP : va_P D vwCl (pw NP ad G) H := hP
  have hD : va_D A (pw NP ad G) := hD
  refine zr_if_eq hx hb 22 ⟨by omega, by omega⟩ dX10_set_8 (by decide) (fun h_8 => ?_) (fun h_8 => ?_)
  · exact zr_throw (text := "there is no such cell") hQ hx hb hst hown (by decide) q_classLink_RX10_64_java_lang_IndexOutOfBoundsExcept q_initialized_java_lang_IndexOutOfBoundsException hX9 (by decide) (fun w9 h9 => hts w9 (by unfold wsX10_set; exact List.mem_cons_of_mem _ (List.mem_append_left _ (List.mem_append_right _ h9)))) (by decide +kernel) (by decide +kernel) hK hP hD hS (hl.1.trans hml.symm) dX10_set_22 dX10_set_25 dX10_set_26 dX10_set_28 dX10_set_31 hno (by decide) (Nat.le_of_ble_eq_true rfl) (by decide) (by decide) hlk (Or.inl ⟨rfl, by omega⟩) (by decide) (by decide)
  · refine lv_aload_n hx hb dX10_set_11 rfl (lv_at hl 0 rfl) ?_
    refine va_get (D := D) (ci := 10) (v := .ref (ad 2)) (C := RX10) (T := TX10) (N := 6) hx hb hts hin10 hown hK hP (1) (pw_at (by omega) (hso)) rfl 0 (by decide) q_f_RX10_12_equations_LEquations (fun _ h9 => h9) rfl dX10_set_12 ?_
    refine lv_iload_n hx hb dX10_set_15 rfl (lv_at hl 2 rfl) ?_
    refine zc_Vi (As := [.int (iZ (y2))]) (rest := []) (wr := []) ⟨hx, hb, hml, hown, hts⟩ (p_hasRow l D cI cJ cE cF cR NP ad G n V hQ9 y2 hy2 hn (by omega)) (cwV 1 hts gX10_set_X4_hasRow rfl rfl rfl (by decide +kernel) ⟨Nat.le_of_ble_eq_true rfl, Nat.le_of_ble_eq_true rfl⟩) hN hK hP hD hS hA (List.range NP) [] (pw_all _ _ _) rfl (pw_nd _) rfl (fun _ h9 => nomatch h9) (q0 := 2) (ci := 4) rfl rfl (pw_at (by omega) (hQ9.1)) rfl hl.1 (Nat.le_of_ble_eq_true rfl) dX10_set_16 ⟨by decide, by decide⟩ (fun q16 w1 H locs hz16 hp hP hD hS => ?_)
    obtain ⟨G9, rfl, hr0, ho9⟩ := hp
    obtain rfl : G = G9 := (funext ho9).symm
    have hh16 : ((0 ≤ y2 ∧ y2 < (n : Int)) ∧ q16 = 1) ∨ (¬ (0 ≤ y2 ∧ y2 < (n : Int)) ∧ q16 = 0) := by rw [hr0]; by_cases w : (0 ≤ y2 ∧ y2 < (n : Int)); (rw [if_pos w]; exact Or.inl ⟨w, rfl⟩); (rw [if_neg w]; exact Or.inr ⟨w, rfl⟩)
    have hP : va_P D vwCl (pw NP ad G) H := hP
    have hD : va_D A (pw NP ad G) := hD
    refine zr_if_ne hx hb 32 ⟨by omega, by omega⟩ dX10_set_19 (by decide) (fun h_19 => ?_) (fun h_19 => ?_)
    · refine lv_iload hx hb dX10_set_32 (lv_at hl 4 rfl) ?_
      refine zr_if_ne hx hb 47 hy4 dX10_set_34 (by decide) (fun h_34 => ?_) (fun h_34 => ?_)
      · refine lv_aload_n hx hb dX10_set_47 rfl (lv_at hl 0 rfl) ?_
        refine va_get (D := D) (ci := 10) (v := .ref (ad 2)) (C := RX10) (T := TX10) (N := 6) hx hb hts hin10 hown hK hP (1) (pw_at (by omega) (hso)) rfl 0 (by decide) q_f_RX10_12_equations_LEquations (fun _ h9 => h9) rfl dX10_set_48 ?_
        refine lv_iload_n hx hb dX10_set_51 rfl (lv_at hl 1 rfl) ?_
        refine lv_iload_n hx hb dX10_set_52 rfl (lv_at hl 2 rfl) ?_
        refine lv_iload_n hx hb dX10_set_53 rfl (lv_at hl 3 rfl) ?_
        refine zr_i2l hx hb hy3 dX10_set_54 ?_
        refine lv_iload hx hb dX10_set_55 (lv_at hl 4 rfl) ?_
        refine zr_i2l hx hb hy4 dX10_set_57 ?_
        rw [congrArg iZ (show y1 = ((y1.toNat : Nat) : Int) by omega)]
        rw [congrArg iZ (show y2 = ((y2.toNat : Nat) : Int) by omega)]
        refine zc_Vv (As := [.int (iZ (((y1.toNat : Nat) : Int))), .int (iZ (((y2.toNat : Nat) : Int))), .long (lZ (y3)), .long (lZ (y4))]) (rest := []) (wr := []) ⟨hx, hb, hml, hown, hts⟩ (p_put l D cI cJ cE cF cR NP ad G n y1.toNat (y2.toNat) y3 y4 V hQ9 (by omega) (by omega) hn ⟨by omega, by omega⟩ ⟨by omega, by omega⟩ (by omega) (by omega)) (cwV 4 hts gX10_set_X4_put rfl rfl rfl (by decide +kernel) ⟨Nat.le_of_ble_eq_true rfl, Nat.le_of_ble_eq_true rfl⟩) hN hK hP hD hS hA (List.range NP) [] (pw_all _ _ _) rfl (pw_nd _) rfl (fun _ h9 => nomatch h9) (q0 := 2) (ci := 4) rfl rfl (pw_at (by omega) (hQ9.1)) rfl hl.1 (Nat.le_of_ble_eq_true rfl) dX10_set_58 ⟨by decide, by decide⟩ (fun w1 H locs hp hP hD hS => ?_)
        obtain ⟨G2, rfl, hQ2, ho2⟩ := hp
        have hP : va_P D vwCl (pw NP ad G2) H := hP
        have hD : va_D A (pw NP ad G2) := hD
        have k58_0 : G2 (1) = .inr (10, [.ref (ad 2), .ref (ad 5), .ref (ad 473), .ref (ad 475), .int (iZ (wd)), .int (iZ (el))]) := (ho2 (1) (by omega) (by omega) (by omega)).trans (hso)
        refine lv_aload_n hx hb dX10_set_61 rfl (lv_at hl 0 rfl) ?_
        refine zc_Vv (As := []) (rest := []) (wr := []) ⟨hx, hb, hml, hown, hts⟩ (p_forget l D cI cJ cE cF cR NP ad G2 wd el ((ho2 1 (by omega) (by omega) (by omega)).trans hso) hNP) (cwV 0 hts gX10_set_X10_forget rfl rfl rfl (by decide +kernel) ⟨Nat.le_of_ble_eq_true rfl, Nat.le_of_ble_eq_true rfl⟩) hN hK hP hD hS hA (List.range NP) [] (pw_all _ _ _) rfl (pw_nd _) rfl (fun _ h9 => nomatch h9) (q0 := 1) (ci := 10) rfl rfl (pw_at (by omega) (k58_0)) rfl hl.1 (Nat.le_of_ble_eq_true rfl) dX10_set_62 ⟨by decide, by decide⟩ (fun w1 H locs hp hP hD hS => ?_)
        obtain ⟨G3, rfl, hs3, ho3⟩ := hp
        have hP : va_P D vwCl (pw NP ad G3) H := hP
        have hD : va_D A (pw NP ad G3) := hD
        have k62_1 : G3 (2) = .inr (4, [.ref (ad 3), .ref (ad 4), .int (iZ (((n : Nat) : Int)))]) := (ho3 (2) (by omega)).trans (hQ2.1)
        refine lv_aload_n hx hb dX10_set_65 rfl (lv_at hl 0 rfl) ?_
        refine va_get (D := D) (ci := 10) (v := .ref (ad 2)) (C := RX10) (T := TX10) (N := 6) hx hb hts hin10 hown hK hP (1) (pw_at (by omega) (hs3)) rfl 0 (by decide) q_f_RX10_12_equations_LEquations (fun _ h9 => h9) rfl dX10_set_66 ?_
        have hQ3 : pEq cJ ad G3 n (zu V (7 * y1.toNat + y2.toNat) (mkRat (if y4 < 0 then -y3 else y3) y4.natAbs)) := hQ2.keep (ho3 2 (by decide)) (ho3 3 (by decide)) (ho3 4 (by decide))
        refine zc_Vi (As := []) (rest := []) (wr := []) ⟨hx, hb, hml, hown, hts⟩ (p_eqLimb l D cI cJ cE cF cR NP ad G3 n (zu V (7 * y1.toNat + y2.toNat) (mkRat (if y4 < 0 then -y3 else y3) y4.natAbs)) hQ3 hn (by omega)) (cwV 0 hts gX10_set_X4_limbCount rfl rfl rfl (by decide +kernel) ⟨Nat.le_of_ble_eq_true rfl, Nat.le_of_ble_eq_true rfl⟩) hN hK hP hD hS hA (List.range NP) [] (pw_all _ _ _) rfl (pw_nd _) rfl (fun _ h9 => nomatch h9) (q0 := 2) (ci := 4) rfl rfl (pw_at (by omega) (k62_1)) rfl hl.1 (Nat.le_of_ble_eq_true rfl) dX10_set_69 ⟨by decide, by decide⟩ (fun zm w1 H locs hz69 hp hP hD hS => ?_)
        obtain ⟨G9, rfl, hr0, ho9⟩ := hp
        obtain rfl : G3 = G9 := (funext ho9).symm
        have hP : va_P D vwCl (pw NP ad G3) H := hP
        have hD : va_D A (pw NP ad G3) := hD
        rw [hQ]
        exact vx_ret (zr_iret rfl hx hb hr hlk dX10_set_72 hK hP hD hS (by omega) (by omega) hz69 (⟨G3, rfl, by omega, by omega, hr0, hC9.anew hs3 ⟨h1n, hn, pe_T_set hT hy3 hy4 (by omega)⟩ hQ3 (fun i q1 q2 => (ho3 i (by omega)).trans (ho2 i (by omega) (by omega) (by omega))), fun i9 q => (ho3 i9 (by omega)).trans (ho2 i9 (by omega) (by omega) (by omega))⟩))
      · exact zr_throw (text := "the denominator is 0") hQ hx hb hst hown (by decide) q_classLink_RX10_46_java_lang_IllegalArgumentExcepti q_initialized_java_lang_IllegalArgumentException hX9 (by decide) (fun w9 h9 => hts w9 (by unfold wsX10_set; exact List.mem_cons_of_mem _ (List.mem_append_right _ h9))) (by decide +kernel) (by decide +kernel) hK hP hD hS (hl.1.trans hml.symm) dX10_set_37 dX10_set_40 dX10_set_41 dX10_set_43 dX10_set_46 hno (by decide) (Nat.le_of_ble_eq_true rfl) (by decide) (by decide) hlk (Or.inr ⟨rfl, by omega, by omega⟩) (by decide) (by decide)
    · exact zr_throw (text := "there is no such cell") hQ hx hb hst hown (by decide) q_classLink_RX10_64_java_lang_IndexOutOfBoundsExcept q_initialized_java_lang_IndexOutOfBoundsException hX9 (by decide) (fun w9 h9 => hts w9 (by unfold wsX10_set; exact List.mem_cons_of_mem _ (List.mem_append_left _ (List.mem_append_right _ h9)))) (by decide +kernel) (by decide +kernel) hK hP hD hS (hl.1.trans hml.symm) dX10_set_22 dX10_set_25 dX10_set_26 dX10_set_28 dX10_set_31 hno (by decide) (Nat.le_of_ble_eq_true rfl) (by decide) (by decide) hlk (Or.inl ⟨rfl, by omega⟩) (by decide) (by decide)

set_option maxHeartbeats 4000000 in
set_option maxRecDepth 100000 in
/-- LimbSolver.right -/
theorem p_right (l : Launch) (D : va_G) (cI cJ cE cF cR : ClassId) (hst : l.stackTraces = false) (NP : Nat) (ad : Nat → Nat) (G : Nat → va_E) (y1 y3 y4 : Int) (V : Nat → Rat) (n : Nat) (wd el : Int) (hC9 : pCs cI cJ cE cF cR NP ad G V n wd el) (hNP : 480 ≤ NP) (hy1 : iR y1) (hy3 : iR y3) (hy4 : iR y4) : Xi l D (zty cI cJ cE cF cR) yX10_right wsX10_right ({ frames := 6, cells := 1, slots := 6, locals := 150 } : Room) 1 6 [.ref (ad 1), .int (iZ (y1)), .int (iZ (y3)), .int (iZ (y4))] (pw NP ad G) (fun z9 w1 => ∃ G1 : Nat → va_E, w1 = pw NP ad G1 ∧ ¬ (y1 < 0 ∨ (n : Int) ≤ y1) ∧ y4 ≠ 0 ∧ z9 = ((mta (zu V (7 * y1.toNat + n) (mkRat (if y4 < 0 then -y3 else y3) y4.natAbs)) n n : Nat) : Int) ∧ pCs cI cJ cE cF cR NP ad G1 (zu V (7 * y1.toNat + n) (mkRat (if y4 < 0 then -y3 else y3) y4.natAbs)) n 0 0 ∧ ∀ i9 : Nat, i9 = 0 ∨ 480 ≤ i9 → G1 i9 = G i9) (fun E => (E = "java/lang/IndexOutOfBoundsException" ∧ (y1 < 0 ∨ (n : Int) ≤ y1)) ∨ (E = "java/lang/IllegalArgumentException" ∧ ¬ (y1 < 0 ∨ (n : Int) ≤ y1) ∧ y4 = 0)) := by
  unfold Xi
  refine zsX (Qc := zQi D _ _) (cc := cX10_right) (maxL := 4) (ret := (some .int)) (by decide) rfl (Nat.le_of_ble_eq_true rfl) ?_
  intro zp ze s zm below meth zc ls A args Q hQ hx hb hr hts hown hlk hml hnm hN hX9 hno hA hK hP hD hS hl
  have q_f_RX10_12_equations_LEquations := hts (.fieldLink RX10 12 "LimbSolver" "equations" "LLimbSolver$Equations;") (by decide +kernel)
  have hin10 : ∀ w ∈ wsX100, w ∈ wsX10_right := by decide +kernel
  have hin4 : ∀ w ∈ wsX40, w ∈ wsX10_right := by decide +kernel
  have q_classLink_RX10_46_java_lang_IllegalArgumentExcepti := hts (.classLink RX10 46 "java/lang/IllegalArgumentException") (by decide +kernel)
  have q_initialized_java_lang_IllegalArgumentException := hts (.initialized "java/lang/IllegalArgumentException") (by decide +kernel)
  have q_classLink_RX10_64_java_lang_IndexOutOfBoundsExcept := hts (.classLink RX10 64 "java/lang/IndexOutOfBoundsException") (by decide +kernel)
  have q_initialized_java_lang_IndexOutOfBoundsException := hts (.initialized "java/lang/IndexOutOfBoundsException") (by decide +kernel)
  have hl : lv_has ls 4 [(0, .ref (ad 1)), (1, .int (iZ (y1))), (2, .int (iZ (y3))), (3, .int (iZ (y4)))] := hl
  obtain ⟨hso, ⟨h1n, hn, hT⟩, hQ9, ⟨hsh, hre, hsq⟩, ρ, PR, ⟨hst9, hwk, hHb, hpr, L8, n8, tn8, pv8, ml8, sv8, hel8⟩, hrun⟩ := id hC9
  have hel01 : el = 0 ∨ el = 1 := by rcases hrun with ⟨_, q⟩ | ⟨_, q, _⟩; exact Or.inl q; exact q
  have hy11 := hy1.1
  have hy12 := hy1.2
  have hy31 := hy3.1
  have hy32 := hy3.2
  have hy41 := hy4.1
  have hy42 := hy4.2
  refine lv_aload_n hx hb dX10_right_0 rfl (lv_at hl 0 rfl) ?_
  refine va_get (D := D) (ci := 10) (v := .ref (ad 2)) (C := RX10) (T := TX10) (N := 6) hx hb hts hin10 hown hK hP (1) (pw_at (by omega) (hso)) rfl 0 (by decide) q_f_RX10_12_equations_LEquations (fun _ h9 => h9) rfl dX10_right_1 ?_
  refine lv_iload_n hx hb dX10_right_4 rfl (lv_at hl 1 rfl) ?_
  refine zc_Vi (As := [.int (iZ (y1))]) (rest := []) (wr := []) ⟨hx, hb, hml, hown, hts⟩ (p_hasRow l D cI cJ cE cF cR NP ad G n V hQ9 y1 hy1 hn (by omega)) (cwV 1 hts gX10_right_X4_hasRow rfl rfl rfl (by decide +kernel) ⟨Nat.le_of_ble_eq_true rfl, Nat.le_of_ble_eq_true rfl⟩) hN hK hP hD hS hA (List.range NP) [] (pw_all _ _ _) rfl (pw_nd _) rfl (fun _ h9 => nomatch h9) (q0 := 2) (ci := 4) rfl rfl (pw_at (by omega) (hQ9.1)) rfl hl.1 (Nat.le_of_ble_eq_true rfl) dX10_right_5 ⟨by decide, by decide⟩ (fun q5 w1 H locs hz5 hp hP hD hS => ?_)
  obtain ⟨G9, rfl, hr0, ho9⟩ := hp
  obtain rfl : G = G9 := (funext ho9).symm
  have hh5 : ((0 ≤ y1 ∧ y1 < (n : Int)) ∧ q5 = 1) ∨ (¬ (0 ≤ y1 ∧ y1 < (n : Int)) ∧ q5 = 0) := by rw [hr0]; by_cases w : (0 ≤ y1 ∧ y1 < (n : Int)); (rw [if_pos w]; exact Or.inl ⟨w, rfl⟩); (rw [if_neg w]; exact Or.inr ⟨w, rfl⟩)
  have hP : va_P D vwCl (pw NP ad G) H := hP
  have hD : va_D A (pw NP ad G) := hD
  refine zr_if_ne hx hb 21 ⟨by omega, by omega⟩ dX10_right_8 (by decide) (fun h_8 => ?_) (fun h_8 => ?_)
  · refine lv_iload_n hx hb dX10_right_21 rfl (lv_at hl 3 rfl) ?_
    refine zr_if_ne hx hb 35 hy4 dX10_right_22 (by decide) (fun h_22 => ?_) (fun h_22 => ?_)
    · refine lv_aload_n hx hb dX10_right_35 rfl (lv_at hl 0 rfl) ?_
      refine va_get (D := D) (ci := 10) (v := .ref (ad 2)) (C := RX10) (T := TX10) (N := 6) hx hb hts hin10 hown hK hP (1) (pw_at (by omega) (hso)) rfl 0 (by decide) q_f_RX10_12_equations_LEquations (fun _ h9 => h9) rfl dX10_right_36 ?_
      refine lv_iload_n hx hb dX10_right_39 rfl (lv_at hl 1 rfl) ?_
      refine lv_aload_n hx hb dX10_right_40 rfl (lv_at hl 0 rfl) ?_
      refine va_get (D := D) (ci := 10) (v := .ref (ad 2)) (C := RX10) (T := TX10) (N := 6) hx hb hts hin10 hown hK hP (1) (pw_at (by omega) (hso)) rfl 0 (by decide) q_f_RX10_12_equations_LEquations (fun _ h9 => h9) rfl dX10_right_41 ?_
      refine va_getN (D := D) (ci := 4) (v := .int (iZ (((n : Nat) : Int)))) (C := RX4) (T := TX4) (N := 3) hx hb hts hin4 hown hK hP (2) (pw_at (by omega) (hQ9.1)) rfl 2 (by decide) (hN.F 2 rfl) (fun _ h9 => h9) rfl dX10_right_44 ?_
      refine lv_iload_n hx hb dX10_right_47 rfl (lv_at hl 2 rfl) ?_
      refine zr_i2l hx hb hy3 dX10_right_48 ?_
      refine lv_iload_n hx hb dX10_right_49 rfl (lv_at hl 3 rfl) ?_
      refine zr_i2l hx hb hy4 dX10_right_50 ?_
      rw [congrArg iZ (show y1 = ((y1.toNat : Nat) : Int) by omega)]
      refine zc_Vv (As := [.int (iZ (((y1.toNat : Nat) : Int))), .int (iZ (((n : Nat) : Int))), .long (lZ (y3)), .long (lZ (y4))]) (rest := []) (wr := []) ⟨hx, hb, hml, hown, hts⟩ (p_put l D cI cJ cE cF cR NP ad G n y1.toNat (n) y3 y4 V hQ9 (by omega) (by omega) hn ⟨by omega, by omega⟩ ⟨by omega, by omega⟩ (by omega) (by omega)) (cwV 4 hts gX10_right_X4_put rfl rfl rfl (by decide +kernel) ⟨Nat.le_of_ble_eq_true rfl, Nat.le_of_ble_eq_true rfl⟩) hN hK hP hD hS hA (List.range NP) [] (pw_all _ _ _) rfl (pw_nd _) rfl (fun _ h9 => nomatch h9) (q0 := 2) (ci := 4) rfl rfl (pw_at (by omega) (hQ9.1)) rfl hl.1 (Nat.le_of_ble_eq_true rfl) dX10_right_51 ⟨by decide, by decide⟩ (fun w1 H locs hp hP hD hS => ?_)
      obtain ⟨G2, rfl, hQ2, ho2⟩ := hp
      have hP : va_P D vwCl (pw NP ad G2) H := hP
      have hD : va_D A (pw NP ad G2) := hD
      have k51_0 : G2 (1) = .inr (10, [.ref (ad 2), .ref (ad 5), .ref (ad 473), .ref (ad 475), .int (iZ (wd)), .int (iZ (el))]) := (ho2 (1) (by omega) (by omega) (by omega)).trans (hso)
      refine lv_aload_n hx hb dX10_right_54 rfl (lv_at hl 0 rfl) ?_
      refine zc_Vv (As := []) (rest := []) (wr := []) ⟨hx, hb, hml, hown, hts⟩ (p_forget l D cI cJ cE cF cR NP ad G2 wd el ((ho2 1 (by omega) (by omega) (by omega)).trans hso) hNP) (cwV 0 hts gX10_right_X10_forget rfl rfl rfl (by decide +kernel) ⟨Nat.le_of_ble_eq_true rfl, Nat.le_of_ble_eq_true rfl⟩) hN hK hP hD hS hA (List.range NP) [] (pw_all _ _ _) rfl (pw_nd _) rfl (fun _ h9 => nomatch h9) (q0 := 1) (ci := 10) rfl rfl (pw_at (by omega) (k51_0)) rfl hl.1 (Nat.le_of_ble_eq_true rfl) dX10_right_55 ⟨by decide, by decide⟩ (fun w1 H locs hp hP hD hS => ?_)
      obtain ⟨G3, rfl, hs3, ho3⟩ := hp
      have hP : va_P D vwCl (pw NP ad G3) H := hP
      have hD : va_D A (pw NP ad G3) := hD
      have k55_1 : G3 (2) = .inr (4, [.ref (ad 3), .ref (ad 4), .int (iZ (((n : Nat) : Int)))]) := (ho3 (2) (by omega)).trans (hQ2.1)
      refine lv_aload_n hx hb dX10_right_58 rfl (lv_at hl 0 rfl) ?_
      refine va_get (D := D) (ci := 10) (v := .ref (ad 2)) (C := RX10) (T := TX10) (N := 6) hx hb hts hin10 hown hK hP (1) (pw_at (by omega) (hs3)) rfl 0 (by decide) q_f_RX10_12_equations_LEquations (fun _ h9 => h9) rfl dX10_right_59 ?_
      have hQ3 : pEq cJ ad G3 n (zu V (7 * y1.toNat + n) (mkRat (if y4 < 0 then -y3 else y3) y4.natAbs)) := hQ2.keep (ho3 2 (by decide)) (ho3 3 (by decide)) (ho3 4 (by decide))
      refine zc_Vi (As := []) (rest := []) (wr := []) ⟨hx, hb, hml, hown, hts⟩ (p_eqLimb l D cI cJ cE cF cR NP ad G3 n (zu V (7 * y1.toNat + n) (mkRat (if y4 < 0 then -y3 else y3) y4.natAbs)) hQ3 hn (by omega)) (cwV 0 hts gX10_right_X4_limbCount rfl rfl rfl (by decide +kernel) ⟨Nat.le_of_ble_eq_true rfl, Nat.le_of_ble_eq_true rfl⟩) hN hK hP hD hS hA (List.range NP) [] (pw_all _ _ _) rfl (pw_nd _) rfl (fun _ h9 => nomatch h9) (q0 := 2) (ci := 4) rfl rfl (pw_at (by omega) (k55_1)) rfl hl.1 (Nat.le_of_ble_eq_true rfl) dX10_right_62 ⟨by decide, by decide⟩ (fun zm w1 H locs hz62 hp hP hD hS => ?_)
      obtain ⟨G9, rfl, hr0, ho9⟩ := hp
      obtain rfl : G3 = G9 := (funext ho9).symm
      have hP : va_P D vwCl (pw NP ad G3) H := hP
      have hD : va_D A (pw NP ad G3) := hD
      rw [hQ]
      exact vx_ret (zr_iret rfl hx hb hr hlk dX10_right_65 hK hP hD hS (by omega) (by omega) hz62 (⟨G3, rfl, by omega, by omega, hr0, hC9.anew hs3 ⟨h1n, hn, pe_T_set hT hy3 hy4 (by omega)⟩ hQ3 (fun i q1 q2 => (ho3 i (by omega)).trans (ho2 i (by omega) (by omega) (by omega))), fun i9 q => (ho3 i9 (by omega)).trans (ho2 i9 (by omega) (by omega) (by omega))⟩))
    · exact zr_throw (text := "the denominator is 0") hQ hx hb hst hown (by decide) q_classLink_RX10_46_java_lang_IllegalArgumentExcepti q_initialized_java_lang_IllegalArgumentException hX9 (by decide) (fun w9 h9 => hts w9 (by unfold wsX10_right; exact List.mem_cons_of_mem _ (List.mem_append_right _ h9))) (by decide +kernel) (by decide +kernel) hK hP hD hS (hl.1.trans hml.symm) dX10_right_25 dX10_right_28 dX10_right_29 dX10_right_31 dX10_right_34 hno (by decide) (Nat.le_of_ble_eq_true rfl) (by decide) (by decide) hlk (Or.inr ⟨rfl, by omega, by omega⟩) (by decide) (by decide)
  · exact zr_throw (text := "there is no such row") hQ hx hb hst hown (by decide) q_classLink_RX10_64_java_lang_IndexOutOfBoundsExcept q_initialized_java_lang_IndexOutOfBoundsException hX9 (by decide) (fun w9 h9 => hts w9 (by unfold wsX10_right; exact List.mem_cons_of_mem _ (List.mem_append_left _ (List.mem_append_right _ h9)))) (by decide +kernel) (by decide +kernel) hK hP hD hS (hl.1.trans hml.symm) dX10_right_11 dX10_right_14 dX10_right_15 dX10_right_17 dX10_right_20 hno (by decide) (Nat.le_of_ble_eq_true rfl) (by decide) (by decide) hlk (Or.inl ⟨rfl, by omega⟩) (by decide) (by decide)

set_option maxHeartbeats 4000000 in
set_option maxRecDepth 100000 in
/-- LimbSolver.eliminate -/
theorem p_eliminate (l : Launch) (D : va_G) (cI cJ cE cF cR : ClassId) (hst : l.stackTraces = false) (NP : Nat) (ad : Nat → Nat) (G : Nat → va_E) (y1 : Int) (V : Nat → Rat) (n : Nat) (wd el : Int) (hC9 : pCs cI cJ cE cF cR NP ad G V n wd el) (hNP : 480 ≤ NP) (hy1 : iR y1) : Xi l D (zty cI cJ cE cF cR) yX10_eliminate wsX10_eliminate ({ frames := 8, cells := 1, slots := 6, locals := 260 } : Room) 1 6 [.ref (ad 1), .int (iZ (y1))] (pw NP ad G) (fun z9 w1 => ∃ G1 : Nat → va_E, w1 = pw NP ad G1 ∧ ¬ (y1 < 0 ∨ 40000 < y1) ∧ ((((peH (pe V n n) : Nat) : Int) ≤ y1 ∧ z9 = ((peR (pe V n n) : Nat) : Int) ∧ ∃ wd1 : Int, pCs cI cJ cE cF cR NP ad G1 V n wd1 1) ∨ (y1 < ((peH (pe V n n) : Nat) : Int) ∧ z9 = -1 ∧ ∃ wd1 : Int, pCs cI cJ cE cF cR NP ad G1 V n wd1 0)) ∧ ∀ i9 : Nat, i9 = 0 ∨ 480 ≤ i9 → G1 i9 = G i9) (fun E => E = "java/lang/IllegalArgumentException" ∧ (y1 < 0 ∨ 40000 < y1)) := by
  unfold Xi
  refine zsX (Qc := zQi D _ _) (cc := cX10_eliminate) (maxL := 2) (ret := (some .int)) (by decide) rfl (Nat.le_of_ble_eq_true rfl) ?_
  intro zp ze s zm below meth zc ls A args Q hQ hx hb hr hts hown hlk hml hnm hN hX9 hno hA hK hP hD hS hl
  have q_classLink_RX10_46_java_lang_IllegalArgumentExcepti := hts (.classLink RX10 46 "java/lang/IllegalArgumentException") (by decide +kernel)
  have q_initialized_java_lang_IllegalArgumentException := hts (.initialized "java/lang/IllegalArgumentException") (by decide +kernel)
  have q_constant_RX10_85_40000 := hts (.constant RX10 85 (40000)) (by decide +kernel)
  have q_f_RX10_43_eliminated_Z := hts (.fieldLink RX10 43 "LimbSolver" "eliminated" "Z") (by decide +kernel)
  have hin10 : ∀ w ∈ wsX100, w ∈ wsX10_eliminate := by decide +kernel
  have q_f_RX10_12_equations_LEquations := hts (.fieldLink RX10 12 "LimbSolver" "equations" "LLimbSolver$Equations;") (by decide +kernel)
  have q_f_RX10_39_worked_Z := hts (.fieldLink RX10 39 "LimbSolver" "worked" "Z") (by decide +kernel)
  have q_f_RX10_19_work_LElimination := hts (.fieldLink RX10 19 "LimbSolver" "work" "LLimbSolver$Elimination;") (by decide +kernel)
  have hin2 : ∀ w ∈ wsX20, w ∈ wsX10_eliminate := by decide +kernel
  have hl : lv_has ls 2 [(0, .ref (ad 1)), (1, .int (iZ (y1)))] := hl
  obtain ⟨hso, ⟨h1n, hn, hT⟩, hQ9, ⟨hsh, hre, hsq⟩, ρ, PR, ⟨hst9, hwk, hHb, hpr, L8, n8, tn8, pv8, ml8, sv8, hel8⟩, hrun⟩ := id hC9
  have hel01 : el = 0 ∨ el = 1 := by rcases hrun with ⟨_, q⟩ | ⟨_, q, _⟩; exact Or.inl q; exact q
  have hy11 := hy1.1
  have hy12 := hy1.2
  have hH1 := pe_Hle hT h1n hn n (Nat.le_refl n)
  have hH0 := pe_H0 V n
  have hVn := pe_ok hT h1n hn n (Nat.le_refl n)
  have hrN := hVn.1.2.1
  have hwd01 : wd = 0 ∨ wd = 1 := by rcases hrun with ⟨q, _⟩ | ⟨q, _, _⟩; exact Or.inl q; exact Or.inr q
  by_cases hwd1 : wd = 1
  · have hrn : pRn cI NP ad G ρ PR n V := by rcases hrun with ⟨q, _⟩ | ⟨_, _, q⟩; omega; exact q
    obtain ⟨L9, rl, hel9, hPR, hRw, hL, hL9, hun, hvo⟩ := hrn
    refine lv_iload_n hx hb dX10_eliminate_0 rfl (lv_at hl 1 rfl) ?_
    refine zr_if_lt hx hb 10 hy1 dX10_eliminate_1 (by decide) (fun h_1 => ?_) (fun h_1 => ?_)
    · exact zr_throw (text := "the cap is not 0 .. 40000") hQ hx hb hst hown (by decide) q_classLink_RX10_46_java_lang_IllegalArgumentExcepti q_initialized_java_lang_IllegalArgumentException hX9 (by decide) (fun w9 h9 => hts w9 (by unfold wsX10_eliminate; exact List.mem_cons_of_mem _ (List.mem_append_right _ h9))) (by decide +kernel) (by decide +kernel) hK hP hD hS (hl.1.trans hml.symm) dX10_eliminate_10 dX10_eliminate_13 dX10_eliminate_14 dX10_eliminate_16 dX10_eliminate_19 hno (by decide) (Nat.le_of_ble_eq_true rfl) (by decide) (by decide) hlk (⟨rfl, by omega⟩) (by decide) (by decide)
    · refine lv_iload_n hx hb dX10_eliminate_4 rfl (lv_at hl 1 rfl) ?_
      refine zr_ldc hx hb 40000 (by decide) hown q_constant_RX10_85_40000 dX10_eliminate_5 ?_
      refine zr_icmp_le hx hb 20 hy1 (by decide) dX10_eliminate_7 (by decide) (fun h_7 => ?_) (fun h_7 => ?_)
      · refine lv_aload_n hx hb dX10_eliminate_20 rfl (lv_at hl 0 rfl) ?_
        refine lv_iconst (v := iZ 0) hx hb dX10_eliminate_21 rfl ?_
        refine va_put (D := D) (ci := 10) (v := .int (iZ (0))) (ty := tyX10 5) (C := RX10) (T := TX10) (N := 6) hx hb hts hin10 tyX10 tyX10_ok nmX10 hown hK hP hD hS (1) (pw_at (by omega) (hso)) rfl 5 (by decide) q_f_RX10_43_eliminated_Z (fun _ h9 => h9) rfl (tyX10_ok 5 (by decide)) rfl rfl (Nat.le_of_ble_eq_true rfl) dX10_eliminate_22 (fun H locs hP hD hS => ?_)
        rw [pw_set] at hP hD
        obtain ⟨G_22, hg22⟩ : ∃ g : Nat → va_E, g = zu G (1) (.inr (10, [.ref (ad 2), .ref (ad 5), .ref (ad 473), .ref (ad 475), .int (iZ (wd)), .int (iZ (0))])) := ⟨_, rfl⟩
        have hP : va_P D vwCl (pw NP ad G_22) H := by rw [hg22]; exact hP
        have hD : va_D A (pw NP ad G_22) := by rw [hg22]; exact hD
        have ho22 : ∀ i8 : Nat, i8 ≠ 1 → G_22 i8 = G i8 := fun i8 hk => by rw [hg22]; exact zu_n _ _ hk
        have he22 : G_22 (1) = .inr (10, [.ref (ad 2), .ref (ad 5), .ref (ad 473), .ref (ad 475), .int (iZ (wd)), .int (iZ (0))]) := by rw [hg22]; exact zu_s _ _ _
        have k22_1 : G_22 (2) = .inr (4, [.ref (ad 3), .ref (ad 4), .int (iZ (((n : Nat) : Int)))]) := (ho22 (2) (by omega)).trans (hQ9.1)
        have k22_2 : G_22 (5) = .inr (2, [.ref (ad 6), .ref (ad 33), .ref (ad 34), .ref (ad 35), .ref (ad 454), .ref (ad 459), .ref (ad 464), .ref (ad 466), .ref (ad 468), .ref (ad 470), .ref (ad 36), .ref (ad L9), .int (iZ (((n : Nat) : Int))), .int (iZ (peT (pe V n n))), .int (iZ (((peR (pe V n n) : Nat) : Int))), .int (iZ (((peH (pe V n n) : Nat) : Int))), .int (iZ (pe_svk (peM (pe V n n)) n (peR (pe V n n)) (n - peR (pe V n n))))]) := (ho22 (5) (by omega)).trans (hel9)
        have hQ22 : pEq cJ ad G_22 n V := hQ9.keep (ho22 2 (by decide)) (ho22 3 (by decide)) (ho22 4 (by decide))
        refine lv_aload_n hx hb dX10_eliminate_25 rfl (lv_at hl 0 rfl) ?_
        refine va_get (D := D) (ci := 10) (v := .ref (ad 2)) (C := RX10) (T := TX10) (N := 6) hx hb hts hin10 hown hK hP (1) (pw_at (by omega) (he22)) rfl 0 (by decide) q_f_RX10_12_equations_LEquations (fun _ h9 => h9) rfl dX10_eliminate_26 ?_
        refine zc_Vi (As := []) (rest := []) (wr := []) ⟨hx, hb, hml, hown, hts⟩ (p_eqLimb l D cI cJ cE cF cR NP ad G_22 n V hQ22 hn (by omega)) (cwV 0 hts gX10_eliminate_X4_limbCount rfl rfl rfl (by decide +kernel) ⟨Nat.le_of_ble_eq_true rfl, Nat.le_of_ble_eq_true rfl⟩) hN hK hP hD hS hA (List.range NP) [] (pw_all _ _ _) rfl (pw_nd _) rfl (fun _ h9 => nomatch h9) (q0 := 2) (ci := 4) rfl rfl (pw_at (by omega) (k22_1)) rfl hl.1 (Nat.le_of_ble_eq_true rfl) dX10_eliminate_29 ⟨by decide, by decide⟩ (fun zm w1 H locs hz29 hp hP hD hS => ?_)
        obtain ⟨G9, rfl, hr0, ho9⟩ := hp
        obtain rfl : G_22 = G9 := (funext ho9).symm
        subst hr0
        have hP : va_P D vwCl (pw NP ad G_22) H := hP
        have hD : va_D A (pw NP ad G_22) := hD
        refine lv_iload_n hx hb dX10_eliminate_32 rfl (lv_at hl 1 rfl) ?_
        refine zr_icmp_le hx hb 38 ⟨by omega, by omega⟩ hy1 dX10_eliminate_33 (by decide) (fun h_33 => ?_) (fun h_33 => ?_)
        · refine lv_aload_n hx hb dX10_eliminate_38 rfl (lv_at hl 0 rfl) ?_
          refine va_get (D := D) (ci := 10) (v := .int (iZ (wd))) (C := RX10) (T := TX10) (N := 6) hx hb hts hin10 hown hK hP (1) (pw_at (by omega) (he22)) rfl 4 (by decide) q_f_RX10_39_worked_Z (fun _ h9 => h9) rfl dX10_eliminate_39 ?_
          refine zr_if_ne hx hb 61 ⟨by omega, by omega⟩ dX10_eliminate_42 (by decide) (fun h_42 => ?_) (fun h_42 => ?_)
          · refine lv_aload_n hx hb dX10_eliminate_61 rfl (lv_at hl 0 rfl) ?_
            refine va_get (D := D) (ci := 10) (v := .ref (ad 5)) (C := RX10) (T := TX10) (N := 6) hx hb hts hin10 hown hK hP (1) (pw_at (by omega) (he22)) rfl 1 (by decide) q_f_RX10_19_work_LElimination (fun _ h9 => h9) rfl dX10_eliminate_62 ?_
            refine va_getN (D := D) (ci := 2) (v := .int (iZ (((peH (pe V n n) : Nat) : Int)))) (C := RX2) (T := TX2) (N := 17) hx hb hts hin2 hown hK hP (5) (pw_at (by omega) (k22_2)) rfl 15 (by decide) (hN.F 26 rfl) (fun _ h9 => h9) rfl dX10_eliminate_65 ?_
            refine lv_iload_n hx hb dX10_eliminate_68 rfl (lv_at hl 1 rfl) ?_
            refine zr_icmp_le hx hb 74 ⟨by omega, by omega⟩ hy1 dX10_eliminate_69 (by decide) (fun h_69 => ?_) (fun h_69 => ?_)
            · refine lv_aload_n hx hb dX10_eliminate_74 rfl (lv_at hl 0 rfl) ?_
              refine lv_iconst (v := iZ 1) hx hb dX10_eliminate_75 rfl ?_
              refine va_put (D := D) (ci := 10) (v := .int (iZ (1))) (ty := tyX10 5) (C := RX10) (T := TX10) (N := 6) hx hb hts hin10 tyX10 tyX10_ok nmX10 hown hK hP hD hS (1) (pw_at (by omega) (he22)) rfl 5 (by decide) q_f_RX10_43_eliminated_Z (fun _ h9 => h9) rfl (tyX10_ok 5 (by decide)) rfl rfl (Nat.le_of_ble_eq_true rfl) dX10_eliminate_76 (fun H locs hP hD hS => ?_)
              rw [pw_set] at hP hD
              obtain ⟨G_76, hg76⟩ : ∃ g : Nat → va_E, g = zu G_22 (1) (.inr (10, [.ref (ad 2), .ref (ad 5), .ref (ad 473), .ref (ad 475), .int (iZ (wd)), .int (iZ (1))])) := ⟨_, rfl⟩
              have hP : va_P D vwCl (pw NP ad G_76) H := by rw [hg76]; exact hP
              have hD : va_D A (pw NP ad G_76) := by rw [hg76]; exact hD
              have ho76 : ∀ i8 : Nat, i8 ≠ 1 → G_76 i8 = G_22 i8 := fun i8 hk => by rw [hg76]; exact zu_n _ _ hk
              have he76 : G_76 (1) = .inr (10, [.ref (ad 2), .ref (ad 5), .ref (ad 473), .ref (ad 475), .int (iZ (wd)), .int (iZ (1))]) := by rw [hg76]; exact zu_s _ _ _
              have k76_0 : G_76 (2) = .inr (4, [.ref (ad 3), .ref (ad 4), .int (iZ (((n : Nat) : Int)))]) := (ho76 (2) (by omega)).trans (k22_1)
              have k76_1 : G_76 (5) = .inr (2, [.ref (ad 6), .ref (ad 33), .ref (ad 34), .ref (ad 35), .ref (ad 454), .ref (ad 459), .ref (ad 464), .ref (ad 466), .ref (ad 468), .ref (ad 470), .ref (ad 36), .ref (ad L9), .int (iZ (((n : Nat) : Int))), .int (iZ (peT (pe V n n))), .int (iZ (((peR (pe V n n) : Nat) : Int))), .int (iZ (((peH (pe V n n) : Nat) : Int))), .int (iZ (pe_svk (peM (pe V n n)) n (peR (pe V n n)) (n - peR (pe V n n))))]) := (ho76 (5) (by omega)).trans (k22_2)
              refine lv_aload_n hx hb dX10_eliminate_79 rfl (lv_at hl 0 rfl) ?_
              refine va_get (D := D) (ci := 10) (v := .ref (ad 5)) (C := RX10) (T := TX10) (N := 6) hx hb hts hin10 hown hK hP (1) (pw_at (by omega) (he76)) rfl 1 (by decide) q_f_RX10_19_work_LElimination (fun _ h9 => h9) rfl dX10_eliminate_80 ?_
              refine va_getN (D := D) (ci := 2) (v := .int (iZ (((peR (pe V n n) : Nat) : Int)))) (C := RX2) (T := TX2) (N := 17) hx hb hts hin2 hown hK hP (5) (pw_at (by omega) (k76_1)) rfl 14 (by decide) (hN.F 25 rfl) (fun _ h9 => h9) rfl dX10_eliminate_83 ?_
              rw [hQ]
              exact vx_ret (zr_iret rfl hx hb hr hlk dX10_eliminate_86 hK hP hD hS (by omega) (by omega) ⟨by omega, by omega⟩ (⟨G_76, rfl, by omega, Or.inl ⟨by omega, rfl, wd, hC9.put1 he76 (fun i q => (ho76 i q).trans (ho22 i q)) (Or.inr ⟨rfl, hwd1⟩)⟩, fun i9 q => (ho76 i9 (by omega)).trans (ho22 i9 (by omega))⟩))
            · refine lv_iconst (v := iZ (-1)) hx hb dX10_eliminate_72 rfl ?_
              rw [hQ]
              exact vx_ret (zr_iret rfl hx hb hr hlk dX10_eliminate_73 hK hP hD hS (by omega) (by omega) (by decide) (⟨G_22, rfl, by omega, Or.inr ⟨by omega, rfl, wd, hC9.put1 he22 (fun i q => ho22 i q) (Or.inl rfl)⟩, fun i9 q => ho22 i9 (by omega)⟩))
          · exfalso; omega
        · refine lv_iconst (v := iZ (-1)) hx hb dX10_eliminate_36 rfl ?_
          rw [hQ]
          exact vx_ret (zr_iret rfl hx hb hr hlk dX10_eliminate_37 hK hP hD hS (by omega) (by omega) (by decide) (⟨G_22, rfl, by omega, Or.inr ⟨by omega, rfl, wd, hC9.put1 he22 (fun i q => ho22 i q) (Or.inl rfl)⟩, fun i9 q => ho22 i9 (by omega)⟩))
      · exact zr_throw (text := "the cap is not 0 .. 40000") hQ hx hb hst hown (by decide) q_classLink_RX10_46_java_lang_IllegalArgumentExcepti q_initialized_java_lang_IllegalArgumentException hX9 (by decide) (fun w9 h9 => hts w9 (by unfold wsX10_eliminate; exact List.mem_cons_of_mem _ (List.mem_append_right _ h9))) (by decide +kernel) (by decide +kernel) hK hP hD hS (hl.1.trans hml.symm) dX10_eliminate_10 dX10_eliminate_13 dX10_eliminate_14 dX10_eliminate_16 dX10_eliminate_19 hno (by decide) (Nat.le_of_ble_eq_true rfl) (by decide) (by decide) hlk (⟨rfl, by omega⟩) (by decide) (by decide)
  · refine lv_iload_n hx hb dX10_eliminate_0 rfl (lv_at hl 1 rfl) ?_
    refine zr_if_lt hx hb 10 hy1 dX10_eliminate_1 (by decide) (fun h_1 => ?_) (fun h_1 => ?_)
    · exact zr_throw (text := "the cap is not 0 .. 40000") hQ hx hb hst hown (by decide) q_classLink_RX10_46_java_lang_IllegalArgumentExcepti q_initialized_java_lang_IllegalArgumentException hX9 (by decide) (fun w9 h9 => hts w9 (by unfold wsX10_eliminate; exact List.mem_cons_of_mem _ (List.mem_append_right _ h9))) (by decide +kernel) (by decide +kernel) hK hP hD hS (hl.1.trans hml.symm) dX10_eliminate_10 dX10_eliminate_13 dX10_eliminate_14 dX10_eliminate_16 dX10_eliminate_19 hno (by decide) (Nat.le_of_ble_eq_true rfl) (by decide) (by decide) hlk (⟨rfl, by omega⟩) (by decide) (by decide)
    · refine lv_iload_n hx hb dX10_eliminate_4 rfl (lv_at hl 1 rfl) ?_
      refine zr_ldc hx hb 40000 (by decide) hown q_constant_RX10_85_40000 dX10_eliminate_5 ?_
      refine zr_icmp_le hx hb 20 hy1 (by decide) dX10_eliminate_7 (by decide) (fun h_7 => ?_) (fun h_7 => ?_)
      · refine lv_aload_n hx hb dX10_eliminate_20 rfl (lv_at hl 0 rfl) ?_
        refine lv_iconst (v := iZ 0) hx hb dX10_eliminate_21 rfl ?_
        refine va_put (D := D) (ci := 10) (v := .int (iZ (0))) (ty := tyX10 5) (C := RX10) (T := TX10) (N := 6) hx hb hts hin10 tyX10 tyX10_ok nmX10 hown hK hP hD hS (1) (pw_at (by omega) (hso)) rfl 5 (by decide) q_f_RX10_43_eliminated_Z (fun _ h9 => h9) rfl (tyX10_ok 5 (by decide)) rfl rfl (Nat.le_of_ble_eq_true rfl) dX10_eliminate_22 (fun H locs hP hD hS => ?_)
        rw [pw_set] at hP hD
        obtain ⟨G_22, hg22⟩ : ∃ g : Nat → va_E, g = zu G (1) (.inr (10, [.ref (ad 2), .ref (ad 5), .ref (ad 473), .ref (ad 475), .int (iZ (wd)), .int (iZ (0))])) := ⟨_, rfl⟩
        have hP : va_P D vwCl (pw NP ad G_22) H := by rw [hg22]; exact hP
        have hD : va_D A (pw NP ad G_22) := by rw [hg22]; exact hD
        have ho22 : ∀ i8 : Nat, i8 ≠ 1 → G_22 i8 = G i8 := fun i8 hk => by rw [hg22]; exact zu_n _ _ hk
        have he22 : G_22 (1) = .inr (10, [.ref (ad 2), .ref (ad 5), .ref (ad 473), .ref (ad 475), .int (iZ (wd)), .int (iZ (0))]) := by rw [hg22]; exact zu_s _ _ _
        have k22_1 : G_22 (2) = .inr (4, [.ref (ad 3), .ref (ad 4), .int (iZ (((n : Nat) : Int)))]) := (ho22 (2) (by omega)).trans (hQ9.1)
        have k22_2 : G_22 (5) = .inr (2, [.ref (ad 6), .ref (ad 33), .ref (ad 34), .ref (ad 35), .ref (ad 454), .ref (ad 459), .ref (ad 464), .ref (ad 466), .ref (ad 468), .ref (ad 470), .ref (ad 36), .ref (ad L8), .int (iZ (n8)), .int (iZ (tn8)), .int (iZ (pv8)), .int (iZ (ml8)), .int (iZ (sv8))]) := (ho22 (5) (by omega)).trans (hel8)
        have hQ22 : pEq cJ ad G_22 n V := hQ9.keep (ho22 2 (by decide)) (ho22 3 (by decide)) (ho22 4 (by decide))
        refine lv_aload_n hx hb dX10_eliminate_25 rfl (lv_at hl 0 rfl) ?_
        refine va_get (D := D) (ci := 10) (v := .ref (ad 2)) (C := RX10) (T := TX10) (N := 6) hx hb hts hin10 hown hK hP (1) (pw_at (by omega) (he22)) rfl 0 (by decide) q_f_RX10_12_equations_LEquations (fun _ h9 => h9) rfl dX10_eliminate_26 ?_
        refine zc_Vi (As := []) (rest := []) (wr := []) ⟨hx, hb, hml, hown, hts⟩ (p_eqLimb l D cI cJ cE cF cR NP ad G_22 n V hQ22 hn (by omega)) (cwV 0 hts gX10_eliminate_X4_limbCount rfl rfl rfl (by decide +kernel) ⟨Nat.le_of_ble_eq_true rfl, Nat.le_of_ble_eq_true rfl⟩) hN hK hP hD hS hA (List.range NP) [] (pw_all _ _ _) rfl (pw_nd _) rfl (fun _ h9 => nomatch h9) (q0 := 2) (ci := 4) rfl rfl (pw_at (by omega) (k22_1)) rfl hl.1 (Nat.le_of_ble_eq_true rfl) dX10_eliminate_29 ⟨by decide, by decide⟩ (fun zm w1 H locs hz29 hp hP hD hS => ?_)
        obtain ⟨G9, rfl, hr0, ho9⟩ := hp
        obtain rfl : G_22 = G9 := (funext ho9).symm
        subst hr0
        have hP : va_P D vwCl (pw NP ad G_22) H := hP
        have hD : va_D A (pw NP ad G_22) := hD
        refine lv_iload_n hx hb dX10_eliminate_32 rfl (lv_at hl 1 rfl) ?_
        refine zr_icmp_le hx hb 38 ⟨by omega, by omega⟩ hy1 dX10_eliminate_33 (by decide) (fun h_33 => ?_) (fun h_33 => ?_)
        · refine lv_aload_n hx hb dX10_eliminate_38 rfl (lv_at hl 0 rfl) ?_
          refine va_get (D := D) (ci := 10) (v := .int (iZ (wd))) (C := RX10) (T := TX10) (N := 6) hx hb hts hin10 hown hK hP (1) (pw_at (by omega) (he22)) rfl 4 (by decide) q_f_RX10_39_worked_Z (fun _ h9 => h9) rfl dX10_eliminate_39 ?_
          refine zr_if_ne hx hb 61 ⟨by omega, by omega⟩ dX10_eliminate_42 (by decide) (fun h_42 => ?_) (fun h_42 => ?_)
          · exfalso; omega
          · refine lv_aload_n hx hb dX10_eliminate_45 rfl (lv_at hl 0 rfl) ?_
            refine va_get (D := D) (ci := 10) (v := .ref (ad 5)) (C := RX10) (T := TX10) (N := 6) hx hb hts hin10 hown hK hP (1) (pw_at (by omega) (he22)) rfl 1 (by decide) q_f_RX10_19_work_LElimination (fun _ h9 => h9) rfl dX10_eliminate_46 ?_
            refine lv_aload_n hx hb dX10_eliminate_49 rfl (lv_at hl 0 rfl) ?_
            refine va_get (D := D) (ci := 10) (v := .ref (ad 2)) (C := RX10) (T := TX10) (N := 6) hx hb hts hin10 hown hK hP (1) (pw_at (by omega) (he22)) rfl 0 (by decide) q_f_RX10_12_equations_LEquations (fun _ h9 => h9) rfl dX10_eliminate_50 ?_
            refine zc_Vv (As := [.ref (ad 2)]) (rest := []) (wr := []) ⟨hx, hb, hml, hown, hts⟩ (p_run l D cI cJ cE cF cR NP ad G_22 L8 n n8 tn8 pv8 ml8 sv8 V ρ PR (k22_2) (hst9.keep (ho22 _ (by decide)) (ho22 _ (by decide)) (ho22 _ (by decide)) (fun r _ => ⟨ho22 _ (by omega), ho22 _ (by omega)⟩)) (hwk.keep (fun i q => ho22 i (by omega))) (hHb.keep (fun i _ _ => ho22 i (by omega))) ((ho22 35 (by decide)).trans hpr) hQ22 hT h1n hn hNP) (cwV 1 hts gX10_eliminate_X2_run rfl rfl rfl (by decide +kernel) ⟨Nat.le_of_ble_eq_true rfl, Nat.le_of_ble_eq_true rfl⟩) hN hK hP hD hS hA (List.range NP) [] (pw_all _ _ _) rfl (pw_nd _) rfl (fun _ h9 => nomatch h9) (q0 := 5) (ci := 2) rfl rfl (pw_at (by omega) (k22_2)) rfl hl.1 (Nat.le_of_ble_eq_true rfl) dX10_eliminate_53 ⟨by decide, by decide⟩ (fun w1 H locs hp hP hD hS => ?_)
            obtain ⟨G2, ρ2, PR2, L2, rl2, rfl, hel2, hst2, hwk2, hHb2, hpr2, hPR2, hRw2, hL2, hLp2, hun2, hvo2, ho2⟩ := hp
            have hP : va_P D vwCl (pw NP ad G2) H := hP
            have hD : va_D A (pw NP ad G2) := hD
            have k53_0 : G2 (2) = .inr (4, [.ref (ad 3), .ref (ad 4), .int (iZ (((n : Nat) : Int)))]) := (ho2 (2) (by omega)).trans (k22_1)
            have k53_2 : G2 (1) = .inr (10, [.ref (ad 2), .ref (ad 5), .ref (ad 473), .ref (ad 475), .int (iZ (wd)), .int (iZ (0))]) := (ho2 (1) (by omega)).trans (he22)
            refine lv_aload_n hx hb dX10_eliminate_56 rfl (lv_at hl 0 rfl) ?_
            refine lv_iconst (v := iZ 1) hx hb dX10_eliminate_57 rfl ?_
            refine va_put (D := D) (ci := 10) (v := .int (iZ (1))) (ty := tyX10 4) (C := RX10) (T := TX10) (N := 6) hx hb hts hin10 tyX10 tyX10_ok nmX10 hown hK hP hD hS (1) (pw_at (by omega) (k53_2)) rfl 4 (by decide) q_f_RX10_39_worked_Z (fun _ h9 => h9) rfl (tyX10_ok 4 (by decide)) rfl rfl (Nat.le_of_ble_eq_true rfl) dX10_eliminate_58 (fun H locs hP hD hS => ?_)
            rw [pw_set] at hP hD
            obtain ⟨G_58, hg58⟩ : ∃ g : Nat → va_E, g = zu G2 (1) (.inr (10, [.ref (ad 2), .ref (ad 5), .ref (ad 473), .ref (ad 475), .int (iZ (1)), .int (iZ (0))])) := ⟨_, rfl⟩
            have hP : va_P D vwCl (pw NP ad G_58) H := by rw [hg58]; exact hP
            have hD : va_D A (pw NP ad G_58) := by rw [hg58]; exact hD
            have ho58 : ∀ i8 : Nat, i8 ≠ 1 → G_58 i8 = G2 i8 := fun i8 hk => by rw [hg58]; exact zu_n _ _ hk
            have he58 : G_58 (1) = .inr (10, [.ref (ad 2), .ref (ad 5), .ref (ad 473), .ref (ad 475), .int (iZ (1)), .int (iZ (0))]) := by rw [hg58]; exact zu_s _ _ _
            have k58_0 : G_58 (2) = .inr (4, [.ref (ad 3), .ref (ad 4), .int (iZ (((n : Nat) : Int)))]) := (ho58 (2) (by omega)).trans (k53_0)
            have k58_2 : G_58 (5) = .inr (2, [.ref (ad 6), .ref (ad 33), .ref (ad 34), .ref (ad 35), .ref (ad 454), .ref (ad 459), .ref (ad 464), .ref (ad 466), .ref (ad 468), .ref (ad 470), .ref (ad 36), .ref (ad L2), .int (iZ (((n : Nat) : Int))), .int (iZ (peT (pe V n n))), .int (iZ (((peR (pe V n n) : Nat) : Int))), .int (iZ (((peH (pe V n n) : Nat) : Int))), .int (iZ (pe_svk (peM (pe V n n)) n (peR (pe V n n)) (n - peR (pe V n n))))]) := (ho58 (5) (by omega)).trans (hel2)
            refine lv_aload_n hx hb dX10_eliminate_61 rfl (lv_at hl 0 rfl) ?_
            refine va_get (D := D) (ci := 10) (v := .ref (ad 5)) (C := RX10) (T := TX10) (N := 6) hx hb hts hin10 hown hK hP (1) (pw_at (by omega) (he58)) rfl 1 (by decide) q_f_RX10_19_work_LElimination (fun _ h9 => h9) rfl dX10_eliminate_62 ?_
            refine va_getN (D := D) (ci := 2) (v := .int (iZ (((peH (pe V n n) : Nat) : Int)))) (C := RX2) (T := TX2) (N := 17) hx hb hts hin2 hown hK hP (5) (pw_at (by omega) (k58_2)) rfl 15 (by decide) (hN.F 26 rfl) (fun _ h9 => h9) rfl dX10_eliminate_65 ?_
            refine lv_iload_n hx hb dX10_eliminate_68 rfl (lv_at hl 1 rfl) ?_
            refine zr_icmp_le hx hb 74 ⟨by omega, by omega⟩ hy1 dX10_eliminate_69 (by decide) (fun h_69 => ?_) (fun h_69 => ?_)
            · refine lv_aload_n hx hb dX10_eliminate_74 rfl (lv_at hl 0 rfl) ?_
              refine lv_iconst (v := iZ 1) hx hb dX10_eliminate_75 rfl ?_
              refine va_put (D := D) (ci := 10) (v := .int (iZ (1))) (ty := tyX10 5) (C := RX10) (T := TX10) (N := 6) hx hb hts hin10 tyX10 tyX10_ok nmX10 hown hK hP hD hS (1) (pw_at (by omega) (he58)) rfl 5 (by decide) q_f_RX10_43_eliminated_Z (fun _ h9 => h9) rfl (tyX10_ok 5 (by decide)) rfl rfl (Nat.le_of_ble_eq_true rfl) dX10_eliminate_76 (fun H locs hP hD hS => ?_)
              rw [pw_set] at hP hD
              obtain ⟨G_76, hg76⟩ : ∃ g : Nat → va_E, g = zu G_58 (1) (.inr (10, [.ref (ad 2), .ref (ad 5), .ref (ad 473), .ref (ad 475), .int (iZ (1)), .int (iZ (1))])) := ⟨_, rfl⟩
              have hP : va_P D vwCl (pw NP ad G_76) H := by rw [hg76]; exact hP
              have hD : va_D A (pw NP ad G_76) := by rw [hg76]; exact hD
              have ho76 : ∀ i8 : Nat, i8 ≠ 1 → G_76 i8 = G_58 i8 := fun i8 hk => by rw [hg76]; exact zu_n _ _ hk
              have he76 : G_76 (1) = .inr (10, [.ref (ad 2), .ref (ad 5), .ref (ad 473), .ref (ad 475), .int (iZ (1)), .int (iZ (1))]) := by rw [hg76]; exact zu_s _ _ _
              have k76_0 : G_76 (2) = .inr (4, [.ref (ad 3), .ref (ad 4), .int (iZ (((n : Nat) : Int)))]) := (ho76 (2) (by omega)).trans (k58_0)
              have k76_1 : G_76 (5) = .inr (2, [.ref (ad 6), .ref (ad 33), .ref (ad 34), .ref (ad 35), .ref (ad 454), .ref (ad 459), .ref (ad 464), .ref (ad 466), .ref (ad 468), .ref (ad 470), .ref (ad 36), .ref (ad L2), .int (iZ (((n : Nat) : Int))), .int (iZ (peT (pe V n n))), .int (iZ (((peR (pe V n n) : Nat) : Int))), .int (iZ (((peH (pe V n n) : Nat) : Int))), .int (iZ (pe_svk (peM (pe V n n)) n (peR (pe V n n)) (n - peR (pe V n n))))]) := (ho76 (5) (by omega)).trans (k58_2)
              refine lv_aload_n hx hb dX10_eliminate_79 rfl (lv_at hl 0 rfl) ?_
              refine va_get (D := D) (ci := 10) (v := .ref (ad 5)) (C := RX10) (T := TX10) (N := 6) hx hb hts hin10 hown hK hP (1) (pw_at (by omega) (he76)) rfl 1 (by decide) q_f_RX10_19_work_LElimination (fun _ h9 => h9) rfl dX10_eliminate_80 ?_
              refine va_getN (D := D) (ci := 2) (v := .int (iZ (((peR (pe V n n) : Nat) : Int)))) (C := RX2) (T := TX2) (N := 17) hx hb hts hin2 hown hK hP (5) (pw_at (by omega) (k76_1)) rfl 14 (by decide) (hN.F 25 rfl) (fun _ h9 => h9) rfl dX10_eliminate_83 ?_
              rw [hQ]
              exact vx_ret (zr_iret rfl hx hb hr hlk dX10_eliminate_86 hK hP hD hS (by omega) (by omega) ⟨by omega, by omega⟩ (⟨G_76, rfl, by omega, Or.inl ⟨by omega, rfl, 1, pCs.run2 hC9 (ρ2 := ρ2) (PR2 := PR2) (L2 := L2) (rl2 := rl2) (G2 := G2) he76 hel2 hst2 hwk2 hHb2 hpr2 hPR2 hRw2 hL2 hLp2 hun2 hvo2 (fun i q => ho2 i q) (fun i q => ho22 i q) (fun i q => (ho76 i q).trans (ho58 i q)) (by decide)⟩, fun i9 q => (ho76 i9 (by omega)).trans ((ho58 i9 (by omega)).trans ((ho2 i9 (by omega)).trans (ho22 i9 (by omega))))⟩))
            · refine lv_iconst (v := iZ (-1)) hx hb dX10_eliminate_72 rfl ?_
              rw [hQ]
              exact vx_ret (zr_iret rfl hx hb hr hlk dX10_eliminate_73 hK hP hD hS (by omega) (by omega) (by decide) (⟨G_58, rfl, by omega, Or.inr ⟨by omega, rfl, 1, pCs.run2 hC9 (ρ2 := ρ2) (PR2 := PR2) (L2 := L2) (rl2 := rl2) (G2 := G2) he58 hel2 hst2 hwk2 hHb2 hpr2 hPR2 hRw2 hL2 hLp2 hun2 hvo2 (fun i q => ho2 i q) (fun i q => ho22 i q) (fun i q => ho58 i q) (by decide)⟩, fun i9 q => (ho58 i9 (by omega)).trans ((ho2 i9 (by omega)).trans (ho22 i9 (by omega)))⟩))
        · refine lv_iconst (v := iZ (-1)) hx hb dX10_eliminate_36 rfl ?_
          rw [hQ]
          exact vx_ret (zr_iret rfl hx hb hr hlk dX10_eliminate_37 hK hP hD hS (by omega) (by omega) (by decide) (⟨G_22, rfl, by omega, Or.inr ⟨by omega, rfl, wd, hC9.put1 he22 (fun i q => ho22 i q) (Or.inl rfl)⟩, fun i9 q => ho22 i9 (by omega)⟩))
      · exact zr_throw (text := "the cap is not 0 .. 40000") hQ hx hb hst hown (by decide) q_classLink_RX10_46_java_lang_IllegalArgumentExcepti q_initialized_java_lang_IllegalArgumentException hX9 (by decide) (fun w9 h9 => hts w9 (by unfold wsX10_eliminate; exact List.mem_cons_of_mem _ (List.mem_append_right _ h9))) (by decide +kernel) (by decide +kernel) hK hP hD hS (hl.1.trans hml.symm) dX10_eliminate_10 dX10_eliminate_13 dX10_eliminate_14 dX10_eliminate_16 dX10_eliminate_19 hno (by decide) (Nat.le_of_ble_eq_true rfl) (by decide) (by decide) hlk (⟨rfl, by omega⟩) (by decide) (by decide)
