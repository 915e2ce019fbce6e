
theorem pe_pi_sg (f : Nat → Nat) (a b i : Nat) : pe_pi f a b i = f (pe_sg a b i) := by
  unfold pe_pi pe_sg
  split
  · rfl
  · split <;> rfl
theorem pe_sg_t (a b : Nat) : pe_sg a b b = a := by
  unfold pe_sg
  split
  · omega
  · rw [if_pos rfl]
theorem pe_sg_o {a b k : Nat} (h1 : k ≠ a) (h2 : k ≠ b) : pe_sg a b k = k := by
  unfold pe_sg
  rw [if_neg h1, if_neg h2]
theorem pe_sw_rho (ρ : Nat → Nat) (a b i : Nat) : (if a = b then ρ i else if i = a then ρ b else if i = b then ρ a else ρ i) = ρ (pe_sg b a i) := by
  unfold pe_sg
  by_cases h : a = b
  · rw [if_pos h]
    by_cases w : i = b
    · rw [if_pos w, w, h]
    · rw [if_neg w, if_neg (by omega)]
  · rw [if_neg h]
    by_cases w : i = a
    · rw [if_pos w, if_neg (by omega), if_pos w]
    · rw [if_neg w]
      by_cases w2 : i = b
      · rw [if_pos w2, if_pos w2]
      · rw [if_neg w2, if_neg w2, if_neg w]
theorem pe_sg_inj {a b i k : Nat} (h : i ≠ k) : pe_sg a b i ≠ pe_sg a b k := by
  unfold pe_sg
  by_cases h1 : i = a <;> by_cases h2 : i = b <;> by_cases h3 : k = a <;> by_cases h4 : k = b <;> simp only [h1, h2, h3, h4, if_true, if_false] <;> (try split) <;> (try split) <;> omega
theorem pSt_sw {cE cF cR : ClassId} {ad : Nat → Nat} {G G' : Nat → va_E} {ρ : Nat → Nat} {a b n : Nat} (h : pSt cE cF cR ad G ρ) (ha : a < n) (hb : b < n) (hn : n ≤ 6) (h1 : G' 33 = aR cR 6 (fun i => some (ad (37 + 66 * (fun i => if a = b then ρ i else if i = a then ρ b else if i = b then ρ a else ρ i) i)))) (hk : ∀ i : Nat, i ≠ 5 → i ≠ 33 → G' i = G i) : pSt cE cF cR ad G' (fun i => ρ (pe_sg b a i)) := by
  obtain ⟨e1, e2, e3, e4, e5, e6⟩ := h
  have hs : ∀ i : Nat, i < 6 → pe_sg b a i < 6 := fun i hi => pe_sg_lt (by omega) (by omega) hi
  refine ⟨h1.trans (congrArg (aR cR 6) (funext fun i => by dsimp only; rw [pe_sw_rho])), (hk _ (by omega) (by omega)).trans e2, (hk _ (by omega) (by omega)).trans e3, fun r hr => ⟨(hk _ (by omega) (by omega)).trans (e4 r hr).1, (hk _ (by omega) (by omega)).trans (e4 r hr).2⟩, fun i hi => e5 _ (hs i hi), fun i k hi hk2 hne => e6 _ _ (hs i hi) (hs k hk2) (pe_sg_inj hne)⟩
theorem pRw.mono {cI : ClassId} {ad : Nat → Nat} {G : Nat → va_E} {q n c c' : Nat} {E : Nat → Int} {M : Nat → Rat} {sc pc : Int} (h : pRw cI ad G q n c E M sc pc) (hc : c ≤ c') : pRw cI ad G q n c' E M sc pc := ⟨h.1, fun j h1 h2 => h.2.1 j (by omega) h2, h.2.2⟩
/-- where the last pivot may lie -/
def pLp (NP L9 rl c : Nat) : Prop := 37 ≤ L9 ∧ L9 + 2 < NP ∧ rl ≤ 46 ∧ (L9 + 2 < 433 ∨ L9 = 470) ∧ (∀ q j : Nat, q < 6 → c ≤ j → j ≤ 6 → L9 + 2 < 40 + 66 * q + 8 * j ∨ 42 + 66 * q + 8 * j < L9) ∧ (∀ q j : Nat, q < 6 → j ≤ 6 → L9 + 2 < 43 + 66 * q + 8 * j ∨ 47 + 66 * q + 8 * j < L9) ∧ (∀ q : Nat, q < 6 → L9 + 2 < 96 + 66 * q ∨ 102 + 66 * q < L9) ∧ ∀ q : Nat, q < 6 → L9 + 2 < 37 + 66 * q ∨ 39 + 66 * q < L9
theorem pLp_470 {NP c : Nat} (h : 480 ≤ NP) : pLp NP 470 1 c := ⟨by omega, by omega, by omega, by omega, fun q j _ _ _ => by omega, fun q j _ _ => by omega, fun q _ => by omega, fun q _ => by omega⟩
theorem pLp_new {NP q a : Nat} (h : 480 ≤ NP) (hq : q < 6) (ha : a ≤ 6) : pLp NP (40 + 66 * q + 8 * a) 46 (a + 1) :=
  ⟨by omega, by omega, by omega, by omega, fun p j _ _ _ => by rcases Nat.lt_trichotomy p q with w | w | w <;> omega, fun p j _ _ => by rcases Nat.lt_trichotomy p q with w | w | w <;> omega, fun p _ => by rcases Nat.lt_trichotomy p q with w | w | w <;> omega, fun p _ => by rcases Nat.lt_trichotomy p q with w | w | w <;> omega⟩
theorem pLp.mono {NP L9 rl c c' : Nat} (h : pLp NP L9 rl c) (hc : c ≤ c') : pLp NP L9 rl c' := ⟨h.1, h.2.1, h.2.2.1, h.2.2.2.1, fun q j h1 h2 h3 => h.2.2.2.2.1 q j h1 (by omega) h3, h.2.2.2.2.2⟩
theorem pcf_sg {R r i : Nat} (f : Nat → Nat) (h : r ≤ R) : (if i < r then ((f i : Nat) : Int) else -1) = (if pe_sg R r i < r then ((f (pe_sg R r i) : Nat) : Int) else -1) := by
  by_cases w1 : i = R
  · have e : pe_sg R r i = r := if_pos w1
    rw [e, if_neg (by omega), if_neg (by omega)]
  · by_cases w2 : i = r
    · have e : pe_sg R r i = R := by unfold pe_sg; rw [if_neg w1, if_pos w2]
      rw [e, if_neg (by omega), if_neg (by omega)]
    · have e : pe_sg R r i = i := by unfold pe_sg; rw [if_neg w1, if_neg w2]
      rw [e]
theorem pe_mt_b {n : Nat} {M : Nat → Nat → Rat} (hn : n ≤ 6) (h : ∀ i j : Nat, i < n → j ≤ n → rl (M i j) ≤ 1000) : pe_mt n M ≤ 42000 := by
  have h1 : ∀ i : Nat, i < n → ∀ c : Nat, c ≤ n + 1 → mtr (pe_fl M) i c ≤ 1000 * c := by
    intro i hi c
    induction c with
    | zero => intro _; exact Nat.le_refl 0
    | succ c ih =>
      intro hc
      have := ih (by omega)
      have h2 := h i c hi (by omega)
      show mtr (pe_fl M) i c + rl (pe_fl M (7 * i + c)) ≤ _
      rw [pe_fl_at _ (by omega)]
      omega
  have h2 : ∀ i : Nat, i ≤ n → mta (pe_fl M) n i ≤ 7000 * i := by
    intro i
    induction i with
    | zero => intro _; exact Nat.le_refl 0
    | succ i ih =>
      intro hi
      have := ih (by omega)
      have h3 := h1 i (by omega) (n + 1) (by omega)
      show mta (pe_fl M) n i + mtr (pe_fl M) i (n + 1) ≤ _
      omega
  have := h2 n (Nat.le_refl n)
  show mta (pe_fl M) n n ≤ _
  omega
theorem pe_xe {V : Nat → Rat} {n : Nat} {s : peS} (hT : pe_T V n) (hn : n ≤ 6) (h : peV V n n s) {j i : Nat} (hj : j < n) (hp : peP s j = ((i : Nat) : Int)) : pe_x s n j = (peE s i n : Rat) / (peL s (peR s) : Rat) := by
  rcases pe_x_b hT hn h hj with ⟨q, _⟩ | ⟨k, q1, q2, _, _, _, _, q3⟩
  · omega
  · have : k = i := by omega
    rw [← this]; exact q3

theorem pe_tdx {t a : Int} {b : Int} (ht : t = 1 ∨ t = -1) (hb : b ≠ 0) : ((t * a : Int) : Rat) / ((b : Int) : Rat) = (a : Rat) / ((t * b : Int) : Rat) := by
  have h := pe_ne_z hb
  rw [Rat.intCast_mul, Rat.intCast_mul]
  generalize (a : Rat) = x at *
  generalize (b : Rat) = y at *
  rcases ht with q | q
  · rw [q, show (((1 : Int)) : Rat) = 1 from rfl]; grind
  · rw [q, show (((-1 : Int)) : Rat) = -1 from rfl]; grind

theorem pcf_n {k r a : Nat} (h : (if k < r then ((a : Nat) : Int) else -1) < 0) (hkr : k ≠ r) : r < k := by
  by_cases w : k < r
  · rw [if_pos w] at h; omega
  · omega
theorem pcf_p {k r a : Nat} (h : (0 : Int) ≤ (if k < r then ((a : Nat) : Int) else -1)) : k < r := by
  by_cases w : k < r
  · exact w
  · rw [if_neg w] at h; omega
set_option maxHeartbeats 4000000 in
set_option maxRecDepth 100000 in
/-- Elimination.run -/
theorem p_run (l : Launch) (D : va_G) (cI cJ cE cF cR : ClassId) (NP : Nat) (ad : Nat → Nat) (G : Nat → va_E) (L9 n : Nat) (n0 tn pv ml sv : Int) (V : Nat → Rat) (ρ : Nat → Nat) (PR : Nat → Int) (hel : G 5 = .inr (2, [.ref (ad 6), .ref (ad 33), .ref (ad 34), .ref (ad 35), .ref (ad 454), .ref (ad 459), .ref (ad 464), .ref (ad 466), .ref (ad 468), .ref (ad 470), .ref (ad 36), .ref (ad L9), .int (iZ (n0)), .int (iZ (tn)), .int (iZ (pv)), .int (iZ (ml)), .int (iZ (sv))])) (hst : pSt cE cF cR ad G ρ) (hwk0 : pWk cI ad G) (hHb0 : pHb cI ad G) (hpr0 : G 35 = aI cI 6 PR) (hQ9 : pEq cJ ad G n V) (hT : pe_T V n) (h1n : 1 ≤ n) (hn : n ≤ 6) (hNP : 480 ≤ NP) : Cv l D (zty cI cJ cE cF cR) yX2_run wsX2_run (zRm 6 220) 0 0 [.ref (ad 5), .ref (ad 2)] (pw NP ad G) (fun w1 => ∃ (G1 : Nat → va_E) (ρ1 : Nat → Nat) (PR1 : Nat → Int) (L1 rl : Nat), w1 = pw NP ad G1 ∧ G1 5 = .inr (2, [.ref (ad 6), .ref (ad 33), .ref (ad 34), .ref (ad 35), .ref (ad 454), .ref (ad 459), .ref (ad 464), .ref (ad 466), .ref (ad 468), .ref (ad 470), .ref (ad 36), .ref (ad L1), .int (iZ (((n : Nat) : Int))), .int (iZ (peT (pe V n n))), .int (iZ (((peR (pe V n n) : Nat) : Int))), .int (iZ (((peH (pe V n n) : Nat) : Int))), .int (iZ (pe_svk (peM (pe V n n)) n (peR (pe V n n)) (n - peR (pe V n n))))]) ∧ pSt cE cF cR ad G1 ρ1 ∧ pWk cI ad G1 ∧ pHb cI ad G1 ∧ G1 35 = aI cI 6 PR1 ∧ (∀ j9 : Nat, j9 < n → PR1 j9 = peP (pe V n n) j9) ∧ (∀ i9 : Nat, i9 < n → pRw cI ad G1 (ρ1 i9) n (n) (peE (pe V n n) i9) (peM (pe V n n) i9) ((pe_sc V (peI (pe V n n) i9) (n + 1) : Nat) : Int) (if i9 < peR (pe V n n) then ((peC (pe V n n) i9 : Nat) : Int) else -1)) ∧ pEn cI ad G1 L1 rl (peL (pe V n n) (peR (pe V n n))) ∧ pLp NP L1 rl n ∧ (∀ c8 : Nat, c8 < n → pFr cI ad G1 (98 + 66 * c8) 46 ((fun c8 => if pe_svk (peM (pe V n n)) n (peR (pe V n n)) (n - peR (pe V n n)) = 0 then 0 else pe_x (pe V n n) n c8) c8)) ∧ pFr cI ad G1 454 46 (if peR (pe V n n) = n then pe_dt (peM (pe V n n)) (peT (pe V n n)) n else 0) ∧ ∀ i9 : Nat, i9 < 5 ∨ 472 < i9 → G1 i9 = G i9) := by
  unfold Cv
  refine zs (Qc := zQv D _ _) (cc := cX2_run) (maxL := 6) (ret := none) (by decide) rfl (Nat.le_of_ble_eq_true rfl) ?_
  intro zp ze s zm below meth zc ls A args Q hQ hx hb hr hts hown hlk hml hnm hN hA hK hP hD hS hl
  have q_f_RX2_97_Elimination_solvable_Z := hts (.fieldLink RX2 97 "LimbSolver$Elimination" "solvable" "Z") (by decide +kernel)
  have hin2 : ∀ w ∈ wsX20, w ∈ wsX2_run := by decide +kernel
  have q_f_RX2_85_Elimination_n_I := hts (.fieldLink RX2 85 "LimbSolver$Elimination" "n" "I") (by decide +kernel)
  have q_f_RX2_30_Elimination_pivotRows_I := hts (.fieldLink RX2 30 "LimbSolver$Elimination" "pivotRows" "[I") (by decide +kernel)
  have hin8 : ∀ w ∈ wsX80, w ∈ wsX2_run := by decide +kernel
  have q_f_RX2_82_Elimination_lastPivot_LEntry := hts (.fieldLink RX2 82 "LimbSolver$Elimination" "lastPivot" "LLimbSolver$Entry;") (by decide +kernel)
  have q_f_RX2_91_Elimination_pivots_I := hts (.fieldLink RX2 91 "LimbSolver$Elimination" "pivots" "I") (by decide +kernel)
  have q_f_RX2_94_Elimination_mostLimbs_I := hts (.fieldLink RX2 94 "LimbSolver$Elimination" "mostLimbs" "I") (by decide +kernel)
  have q_methodLink_RX2_129_Lib_Math_max_name := hts (.methodLink RX2 129 Lib.Math.max.name) (by decide +kernel)
  have q_static_Lib_Math_max_name := hts (.static Lib.Math.max.name) (by decide +kernel)
  have q_initialized_java_lang_Math := hts (.initialized "java/lang/Math") (by decide +kernel)
  have q_code_Lib_Math_max_name_Lib_Math_max_code_2_some_in := hts (.code Lib.Math.max.name Lib.Math.max.code 2 (some .int)) (by decide +kernel)
  have q_f_RX2_20_Elimination_rows_LRow := hts (.fieldLink RX2 20 "LimbSolver$Elimination" "rows" "[LLimbSolver$Row;") (by decide +kernel)
  have hl : lv_has ls 6 [(0, .ref (ad 5)), (1, .ref (ad 2))] := hl
  have jF : ∀ (G1 : Nat → va_E) (ρ : Nat → Nat) (PR : Nat → Int) (L9 : Nat) (rl : Nat) (H : Heap) (locs : List Loc) (ls : Array Slot), (G1 5 = .inr (2, [.ref (ad 6), .ref (ad 33), .ref (ad 34), .ref (ad 35), .ref (ad 454), .ref (ad 459), .ref (ad 464), .ref (ad 466), .ref (ad 468), .ref (ad 470), .ref (ad 36), .ref (ad L9), .int (iZ (((n : Nat) : Int))), .int (iZ (peT (pe V n n))), .int (iZ (((peR (pe V n n) : Nat) : Int))), .int (iZ (((peH (pe V n n) : Nat) : Int))), .int (iZ (sv))])) → (pSt cE cF cR ad G1 ρ) → (pWk cI ad G1) → (pHb cI ad G1) → (G1 35 = aI cI 6 PR) → (∀ j9 : Nat, j9 < n → PR j9 = peP (pe V n n) j9) → (∀ i9 : Nat, i9 < n → pRw cI ad G1 (ρ i9) n (n) (peE (pe V n n) i9) (peM (pe V n n) i9) ((pe_sc V (peI (pe V n n) i9) (n + 1) : Nat) : Int) (if i9 < peR (pe V n n) then ((peC (pe V n n) i9 : Nat) : Int) else -1)) → (pEn cI ad G1 L9 rl (peL (pe V n n) (peR (pe V n n)))) → (((peL (pe V n n) (peR (pe V n n))).natAbs : Int) < bg_p rl) → (pLp NP L9 rl n) → (peH (pe V n n) ≤ 2147483647) → (∀ i9 : Nat, i9 < 5 ∨ 472 < i9 → G1 i9 = G i9) →  va_P D vwCl (pw NP ad G1) H → va_D A (pw NP ad G1) → va_S A s.heap H locs → lv_has ls 6 [(0, .ref (ad 5)), (1, .ref (ad 2))] → W zp l ze (zRm 6 220) s zm args below meth zc H locs 0 0 Q (F0 zm 171 ls []) := by
    intro G1 ρ PR L9 rl H locs ls hel1 hst1 hwk hHb hpr hPR hRw hL hLb hL9 hHm hof hP hD hS hl
    have hVn := pe_ok hT h1n hn n (Nat.le_refl n)
    have hrN := hVn.1.2.1
    have hPRb : ∀ c8 : Nat, c8 < n → PR c8 = -1 ∨ (0 ≤ PR c8 ∧ PR c8 < ((peR (pe V n n) : Nat) : Int)) := fun c8 h => by rw [hPR c8 h]; rcases hVn.2.2.2.2.2.2.2.2.1 c8 h with q | ⟨i9, q1, q2, _⟩; (exact Or.inl q); (right; omega)
    have hXa : ∀ c8 : Nat, c8 < n → pe_svk (peM (pe V n n)) n (peR (pe V n n)) (n - peR (pe V n n)) ≠ 0 → ∀ i9 : Nat, i9 < peR (pe V n n) → PR c8 = ((i9 : Nat) : Int) → (fun c8 => if pe_svk (peM (pe V n n)) n (peR (pe V n n)) (n - peR (pe V n n)) = 0 then 0 else pe_x (pe V n n) n c8) c8 = (peE (pe V n n) i9 n : Rat) / (peL (pe V n n) (peR (pe V n n)) : Rat) := fun c8 h h0 i9 h1 h2 => by show (if pe_svk (peM (pe V n n)) n (peR (pe V n n)) (n - peR (pe V n n)) = 0 then 0 else pe_x (pe V n n) n c8) = _; rw [if_neg h0]; exact pe_xe hT hn hVn h (by rw [← hPR c8 h]; exact h2)
    have hXb : ∀ c8 : Nat, c8 < n → (pe_svk (peM (pe V n n)) n (peR (pe V n n)) (n - peR (pe V n n)) = 0 ∨ PR c8 < 0) → (fun c8 => if pe_svk (peM (pe V n n)) n (peR (pe V n n)) (n - peR (pe V n n)) = 0 then 0 else pe_x (pe V n n) n c8) c8 = 0 := fun c8 h h0 => by show (if pe_svk (peM (pe V n n)) n (peR (pe V n n)) (n - peR (pe V n n)) = 0 then 0 else pe_x (pe V n n) n c8) = 0; rcases h0 with q | q; (rw [if_pos q]); (split; rfl; (unfold pe_x; rw [if_pos (by rw [← hPR c8 h]; exact q)]))
    refine lv_aload_n hx hb dX2_run_171 rfl (lv_at hl 0 rfl) ?_
    refine lv_aload_n hx hb dX2_run_172 rfl (lv_at hl 0 rfl) ?_
    refine zc_Vi (As := []) (rest := [.ref (ad 5)]) (wr := []) ⟨hx, hb, hml, hown, hts⟩ (p_hasNoRight l D cI cJ cE cF cR NP ad G1 (peE (pe V n n)) (peM (pe V n n)) L9 n (peR (pe V n n)) (peT (pe V n n)) ((peH (pe V n n) : Nat) : Int) sv hel1 ρ (fun i9 => (if i9 < peR (pe V n n) then ((peC (pe V n n) i9 : Nat) : Int) else -1)) hst1 (fun i9 h => (hRw i9 h).1) (fun i9 h1 h2 => (hRw i9 h2).2.1 n (Nat.le_refl n) (Nat.le_refl n)) (fun i9 h1 h2 => (peV_z hVn h2 (Nat.le_refl n)).symm) hn hVn.1.2.1 hNP) (cwV 0 hts gX2_run_X2_hasNoRightSidesLeft rfl rfl rfl (by decide +kernel) ⟨Nat.le_of_ble_eq_true rfl, Nat.le_of_ble_eq_true rfl⟩) hN hK hP hD hS hA (List.range NP) [] (pw_all _ _ _) rfl (pw_nd _) rfl (fun _ h9 => nomatch h9) (q0 := 5) (ci := 2) rfl rfl (pw_at (by omega) (hel1)) rfl hl.1 (Nat.le_of_ble_eq_true rfl) dX2_run_173 ⟨by decide, by decide⟩ (fun zn w1 H locs hz173 hp hP hD hS => ?_)
    obtain ⟨G9, rfl, hr0, ho9⟩ := hp
    obtain rfl : G1 = G9 := (funext ho9).symm
    subst hr0
    have hP : va_P D vwCl (pw NP ad G1) H := hP
    have hD : va_D A (pw NP ad G1) := hD
    refine va_put (D := D) (ci := 2) (v := .int (iZ (pe_svk (peM (pe V n n)) n (peR (pe V n n)) (n - peR (pe V n n))))) (ty := tyX2 16) (C := RX2) (T := TX2) (N := 17) hx hb hts hin2 tyX2 tyX2_ok nmX2 hown hK hP hD hS (5) (pw_at (by omega) (hel1)) rfl 16 (by decide) q_f_RX2_97_Elimination_solvable_Z (fun _ h9 => h9) rfl (tyX2_ok 16 (by decide)) (by rcases pe_svk01 (peM (pe V n n)) n (peR (pe V n n)) (n - peR (pe V n n)) with q | q <;> rw [q] <;> rfl) (by rcases pe_svk01 (peM (pe V n n)) n (peR (pe V n n)) (n - peR (pe V n n)) with q | q <;> rw [q] <;> rfl) (Nat.le_of_ble_eq_true rfl) dX2_run_176 (fun H locs hP hD hS => ?_)
    rw [pw_set] at hP hD
    obtain ⟨G_176, hg176⟩ : ∃ g : Nat → va_E, g = zu G1 (5) (.inr (2, [.ref (ad 6), .ref (ad 33), .ref (ad 34), .ref (ad 35), .ref (ad 454), .ref (ad 459), .ref (ad 464), .ref (ad 466), .ref (ad 468), .ref (ad 470), .ref (ad 36), .ref (ad L9), .int (iZ (((n : Nat) : Int))), .int (iZ (peT (pe V n n))), .int (iZ (((peR (pe V n n) : Nat) : Int))), .int (iZ (((peH (pe V n n) : Nat) : Int))), .int (iZ (pe_svk (peM (pe V n n)) n (peR (pe V n n)) (n - peR (pe V n n))))])) := ⟨_, rfl⟩
    have hP : va_P D vwCl (pw NP ad G_176) H := by rw [hg176]; exact hP
    have hD : va_D A (pw NP ad G_176) := by rw [hg176]; exact hD
    have ho176 : ∀ k : Nat, k ≠ 5 → G_176 k = G1 k := fun k hk => by rw [hg176]; exact zu_n _ _ hk
    have he176 : G_176 (5) = .inr (2, [.ref (ad 6), .ref (ad 33), .ref (ad 34), .ref (ad 35), .ref (ad 454), .ref (ad 459), .ref (ad 464), .ref (ad 466), .ref (ad 468), .ref (ad 470), .ref (ad 36), .ref (ad L9), .int (iZ (((n : Nat) : Int))), .int (iZ (peT (pe V n n))), .int (iZ (((peR (pe V n n) : Nat) : Int))), .int (iZ (((peH (pe V n n) : Nat) : Int))), .int (iZ (pe_svk (peM (pe V n n)) n (peR (pe V n n)) (n - peR (pe V n n))))]) := by rw [hg176]; exact zu_s _ _ _
    have k176_1 : G_176 (6) = .inr (0, [.ref (ad 7), .ref (ad 10), .ref (ad 19), .ref (ad 21), .ref (ad 23), .ref (ad 25), .ref (ad 27), .ref (ad 29), .ref (ad 31)]) := (ho176 (6) (by omega)).trans (hwk.1.1)
    have hst6 := (hst1.keep (ho176 _ (by omega)) (ho176 _ (by omega)) (ho176 _ (by omega)) (fun r9 h => ⟨ho176 _ (by omega), ho176 _ (by omega)⟩))
    have hRw6 : ∀ i9 : Nat, i9 < n → pRw cI ad G_176 (ρ i9) n (n) (peE (pe V n n) i9) (peM (pe V n n) i9) ((pe_sc V (peI (pe V n n) i9) (n + 1) : Nat) : Int) (if i9 < peR (pe V n n) then ((peC (pe V n n) i9 : Nat) : Int) else -1) := (fun i9 (h : i9 < n) => (hRw i9 h).keep hn (fun k q1 q2 => ho176 k (by omega)))
    refine lv_aload_n hx hb dX2_run_179 rfl (lv_at hl 0 rfl) ?_
    refine zc_Vv (As := []) (rest := []) (wr := []) ⟨hx, hb, hml, hown, hts⟩ (p_findUnknowns l D cI cJ cE cF cR NP ad G_176 (peR (pe V n n)) L9 n rl (peT (pe V n n)) ((peR (pe V n n) : Nat) : Int) ((peH (pe V n n) : Nat) : Int) (pe_svk (peM (pe V n n)) n (peR (pe V n n)) (n - peR (pe V n n))) (peL (pe V n n) (peR (pe V n n))) (fun i9 => peE (pe V n n) i9 n) PR (fun c8 => if pe_svk (peM (pe V n n)) n (peR (pe V n n)) (n - peR (pe V n n)) = 0 then 0 else pe_x (pe V n n) n c8) he176 ρ (fun i9 => (if i9 < peR (pe V n n) then ((peC (pe V n n) i9 : Nat) : Int) else -1)) hst6 (fun i9 h => (hRw6 i9 h).1) (hwk.1.keep (fun k q1 q2 => ho176 k (by omega))) ((ho176 _ (by omega)).trans hpr) (fun c8 h => (hHb c8 h).2.2.2.keep (fun i9 q1 q2 => ho176 i9 (by omega))) (fun i9 h => (hRw6 i9 (by omega)).2.1 n (Nat.le_refl n) (Nat.le_refl n)) (fun i9 h => peV_E43 hT hn hVn (by omega) (Nat.le_refl n)) (hL.keep (fun k q1 q2 => ho176 k (by have := hL9.1; omega))) ⟨by have := hL9.1; omega, hL9.2.1⟩ (peV_L43 hn hVn).2 (peV_L43 hn hVn).1 (by have := hL9.2.2.1; omega) (fun c8 h => by have := hL9.2.2.2.2.2.2.1 c8 h; omega) (fun i9 h => hL9.2.2.2.2.1 (ρ i9) n (hst1.2.2.2.2.1 i9 (by omega)) (Nat.le_refl n) hn) hPRb (pe_svk01 _ _ _ _) hXa hXb hVn.1.2.1 hn hNP) (cwV 0 hts gX2_run_X2_findUnknowns rfl rfl rfl (by decide +kernel) ⟨Nat.le_of_ble_eq_true rfl, Nat.le_of_ble_eq_true rfl⟩) hN hK hP hD hS hA (List.range NP) [] (pw_all _ _ _) rfl (pw_nd _) rfl (fun _ h9 => nomatch h9) (q0 := 5) (ci := 2) rfl rfl (pw_at (by omega) (he176)) rfl hl.1 (Nat.le_of_ble_eq_true rfl) dX2_run_180 ⟨by decide, by decide⟩ (fun w1 H locs hp hP hD hS => ?_)
    obtain ⟨G2, rfl, hA2, hu2, ho2⟩ := hp
    have hP : va_P D vwCl (pw NP ad G2) H := hP
    have hD : va_D A (pw NP ad G2) := hD
    have k180_0 : G2 (6) = .inr (0, [.ref (ad 7), .ref (ad 10), .ref (ad 19), .ref (ad 21), .ref (ad 23), .ref (ad 25), .ref (ad 27), .ref (ad 29), .ref (ad 31)]) := (ho2 (6) (by omega) (fun c8 q8 => by omega)).trans (k176_1)
    have k180_1 : G2 (5) = .inr (2, [.ref (ad 6), .ref (ad 33), .ref (ad 34), .ref (ad 35), .ref (ad 454), .ref (ad 459), .ref (ad 464), .ref (ad 466), .ref (ad 468), .ref (ad 470), .ref (ad 36), .ref (ad L9), .int (iZ (((n : Nat) : Int))), .int (iZ (peT (pe V n n))), .int (iZ (((peR (pe V n n) : Nat) : Int))), .int (iZ (((peH (pe V n n) : Nat) : Int))), .int (iZ (pe_svk (peM (pe V n n)) n (peR (pe V n n)) (n - peR (pe V n n))))]) := (ho2 (5) (by omega) (fun c8 q8 => by omega)).trans (he176)
    have hst2 : pSt cE cF cR ad G2 ρ := hst6.keep (ho2 _ (by omega) (fun c8 q8 => by omega)) (ho2 _ (by omega) (fun c8 q8 => by omega)) (ho2 _ (by omega) (fun c8 q8 => by omega)) (fun r9 h => ⟨ho2 _ (by omega) (fun c8 q8 => by rcases Nat.lt_trichotomy r9 c8 with w | w | w <;> omega), ho2 _ (by omega) (fun c8 q8 => by rcases Nat.lt_trichotomy r9 c8 with w | w | w <;> omega)⟩)
    have hRw2 : ∀ i9 : Nat, i9 < n → pRw cI ad G2 (ρ i9) n (n) (peE (pe V n n) i9) (peM (pe V n n) i9) ((pe_sc V (peI (pe V n n) i9) (n + 1) : Nat) : Int) (if i9 < peR (pe V n n) then ((peC (pe V n n) i9 : Nat) : Int) else -1) := fun i9 h => (hRw6 i9 h).keep hn (fun k q1 q2 => ho2 k (by omega) (fun c8 q8 => by rcases Nat.lt_trichotomy (ρ i9) c8 with w | w | w <;> omega))
    have hHb2 : pHb cI ad G2 := (hHb.keep (fun i9 q1 q2 => ho176 i9 (by omega))).upd (fun q hq => Or.inl (ho2 _ (by omega) (fun c8 q8 => by rcases Nat.lt_trichotomy q c8 with w | w | w <;> omega))) (fun q j hq hj => Or.inl (fun i9 q1 q2 => ho2 _ (by omega) (fun c8 q8 => by rcases Nat.lt_trichotomy q c8 with w | w | w <;> omega))) (fun q j hq hj => Or.inl (fun i9 q1 q2 => ho2 _ (by omega) (fun c8 q8 => by rcases Nat.lt_trichotomy q c8 with w | w | w <;> omega))) (fun q hq => Or.inl (fun i9 q1 q2 => ho2 _ (by omega) (fun c8 q8 => by rcases Nat.lt_trichotomy q c8 with w | w | w <;> omega))) (fun q hq => by by_cases w : q < n; (exact Or.inr (hu2 q w).has); exact Or.inl (fun i9 q1 q2 => ho2 _ (by omega) (fun c8 q8 => by omega)))
    have hwk6 := hwk.keep (fun i9 q1 => ho176 i9 (by omega))
    have hwk2 : pWk cI ad G2 := ⟨hA2, hwk6.2.1.keep (ho2 _ (by omega) (fun c8 q8 => by omega)) (ho2 _ (by omega) (fun c8 q8 => by omega)), hwk6.2.2.1.keep (ho2 _ (by omega) (fun c8 q8 => by omega)) (ho2 _ (by omega) (fun c8 q8 => by omega)), hwk6.2.2.2.1.keep (ho2 _ (by omega) (fun c8 q8 => by omega)) (ho2 _ (by omega) (fun c8 q8 => by omega)), hwk6.2.2.2.2.1.keep (fun k q1 q2 => ho2 k (by omega) (fun c8 q8 => by omega)), hwk6.2.2.2.2.2.1.keep (fun k q1 q2 => ho2 k (by omega) (fun c8 q8 => by omega)), hwk6.2.2.2.2.2.2.1.keep (fun k q1 q2 => ho2 k (by omega) (fun c8 q8 => by omega)), fun j hj => (hwk6.2.2.2.2.2.2.2 j hj).keep (fun k q1 q2 => ho2 k (by omega) (fun c8 q8 => by omega))⟩
    have hL2 := (hL.keep (fun k q1 q2 => ho176 k (by have := hL9.1; omega))).keep (fun k q1 q2 => ho2 k (by have := hL9.1; omega) (fun c8 q8 => by have := hL9.2.2.2.2.2.2.1 c8 (by omega); omega))
    have hpr2 : G2 35 = aI cI 6 PR := (ho2 35 (by omega) (fun c8 q8 => by omega)).trans ((ho176 35 (by omega)).trans hpr)
    by_cases hrn : peR (pe V n n) = n
    · have hdx : pe_dt (peM (pe V n n)) (peT (pe V n n)) n = (peL (pe V n n) (peR (pe V n n)) : Rat) / ((peT (pe V n n) * ((pe_ss V n (peI (pe V n n)) n : Nat) : Int) : Int) : Rat) := by rw [(peV_dt hT hn hVn hrn n (Nat.le_refl n)).1, hrn]; exact pe_tdx hVn.2.2.2.2.2.2.2.2.2 (by have := pe_ss_pos V n (peI (pe V n n)) n; omega)
      refine lv_aload_n hx hb dX2_run_183 rfl (lv_at hl 0 rfl) ?_
      refine zc_Vv (As := []) (rest := []) (wr := []) ⟨hx, hb, hml, hown, hts⟩ (p_findVolume1 l D cI cJ cE cF cR NP ad G2 (peR (pe V n n)) L9 n rl (peT (pe V n n)) ((peH (pe V n n) : Nat) : Int) (pe_svk (peM (pe V n n)) n (peR (pe V n n)) (n - peR (pe V n n))) (peL (pe V n n) (peR (pe V n n))) V (peI (pe V n n)) (pe_dt (peM (pe V n n)) (peT (pe V n n)) n) (k180_1) ρ (fun i9 => (if i9 < peR (pe V n n) then ((peC (pe V n n) i9 : Nat) : Int) else -1)) hst2 (fun i9 h => (hRw2 i9 h).1) hwk2.1 hwk2.2.2.2.2.2.1 hwk2.2.1 hwk2.2.2.2.1 (fun i9 h => (hRw2 i9 h).2.2.2) hL2 ⟨by have := hL9.1; omega, hL9.2.1⟩ (peV_L43 hn hVn).2 (peV_L43 hn hVn).1 (by have := hL9.2.2.1; omega) (by have := hL9.2.2.2.1; omega) hT hVn.2.2.2.2.2.2.1 hVn.2.2.2.2.2.2.2.2.2 hdx hrn hn hNP) (cwV 0 hts gX2_run_X2_findVolume rfl rfl rfl (by decide +kernel) ⟨Nat.le_of_ble_eq_true rfl, Nat.le_of_ble_eq_true rfl⟩) hN hK hP hD hS hA (List.range NP) [] (pw_all _ _ _) rfl (pw_nd _) rfl (fun _ h9 => nomatch h9) (q0 := 5) (ci := 2) rfl rfl (pw_at (by omega) (k180_1)) rfl hl.1 (Nat.le_of_ble_eq_true rfl) dX2_run_184 ⟨by decide, by decide⟩ (fun w1 H locs hp hP hD hS => ?_)
      obtain ⟨G3, rfl, hA3, hv3, hp3, hb3, ho3⟩ := hp
      have hP : va_P D vwCl (pw NP ad G3) H := hP
      have hD : va_D A (pw NP ad G3) := hD
      have k184_0 : G3 (6) = .inr (0, [.ref (ad 7), .ref (ad 10), .ref (ad 19), .ref (ad 21), .ref (ad 23), .ref (ad 25), .ref (ad 27), .ref (ad 29), .ref (ad 31)]) := (ho3 (6) (by omega) (by omega) (by omega) (by omega)).trans (k180_0)
      have k184_1 : G3 (5) = .inr (2, [.ref (ad 6), .ref (ad 33), .ref (ad 34), .ref (ad 35), .ref (ad 454), .ref (ad 459), .ref (ad 464), .ref (ad 466), .ref (ad 468), .ref (ad 470), .ref (ad 36), .ref (ad L9), .int (iZ (((n : Nat) : Int))), .int (iZ (peT (pe V n n))), .int (iZ (((peR (pe V n n) : Nat) : Int))), .int (iZ (((peH (pe V n n) : Nat) : Int))), .int (iZ (pe_svk (peM (pe V n n)) n (peR (pe V n n)) (n - peR (pe V n n))))]) := (ho3 (5) (by omega) (by omega) (by omega) (by omega)).trans (k180_1)
      exact zr_vret hQ hx hb hr hlk dX2_run_187 hK hP hD hS (by omega) (by omega) (⟨G3, ρ, PR, L9, rl, rfl, k184_1, hst2.keep (ho3 (_) (by omega) (by omega) (by omega) (by omega)) (ho3 (_) (by omega) (by omega) (by omega) (by omega)) (ho3 (_) (by omega) (by omega) (by omega) (by omega)) (fun r9 h => ⟨ho3 (_) (by omega) (by omega) (by omega) (by omega), ho3 (_) (by omega) (by omega) (by omega) (by omega)⟩), ⟨hA3, hp3, hwk2.2.2.1.keep (ho3 (_) (by omega) (by omega) (by omega) (by omega)) (ho3 (_) (by omega) (by omega) (by omega) (by omega)), hb3, hwk2.2.2.2.2.1.keep (fun k q1 q2 => ho3 (k) (by omega) (by omega) (by omega) (by omega)), hv3.has, hwk2.2.2.2.2.2.2.1.keep (fun k q1 q2 => ho3 (k) (by omega) (by omega) (by omega) (by omega)), fun j hj => (hwk2.2.2.2.2.2.2.2 j hj).keep (fun k q1 q2 => ho3 (k) (by omega) (by omega) (by omega) (by omega))⟩, hHb2.keep (fun k q1 q2 => ho3 (k) (by omega) (by omega) (by omega) (by omega)), (ho3 (35) (by omega) (by omega) (by omega) (by omega)).trans hpr2, hPR, (fun i9 h => (hRw2 i9 h).keep hn (fun k q1 q2 => by have := hst1.2.2.2.2.1 i9 (by omega); exact ho3 (k) (by omega) (by omega) (by omega) (by omega))), hL2.keep (fun k q1 q2 => by have := hL9.1; have := hL9.2.2.2.1; exact ho3 (k) (by omega) (by omega) (by omega) (by omega)), hL9, (fun c8 h => (hu2 c8 h).keep (fun k q1 q2 => ho3 (k) (by omega) (by omega) (by omega) (by omega))), by rw [if_pos hrn]; exact hv3, fun i9 h => (ho3 (i9) (by omega) (by omega) (by omega) (by omega)).trans ((ho2 i9 (by omega) (fun c8 q8 => by omega)).trans ((ho176 i9 (by omega)).trans (hof i9 h)))⟩)
    · refine lv_aload_n hx hb dX2_run_183 rfl (lv_at hl 0 rfl) ?_
      refine zc_Vv (As := []) (rest := []) (wr := []) ⟨hx, hb, hml, hown, hts⟩ (p_findVolume0 l D cI cJ cE cF cR NP ad G2 (peR (pe V n n)) L9 n (peT (pe V n n)) ((peH (pe V n n) : Nat) : Int) (pe_svk (peM (pe V n n)) n (peR (pe V n n)) (n - peR (pe V n n))) (k180_1) hwk2.2.2.2.2.2.1 (by have := hVn.1.2.1; omega) hn hNP) (cwV 0 hts gX2_run_X2_findVolume rfl rfl rfl (by decide +kernel) ⟨Nat.le_of_ble_eq_true rfl, Nat.le_of_ble_eq_true rfl⟩) hN hK hP hD hS hA (List.range NP) [] (pw_all _ _ _) rfl (pw_nd _) rfl (fun _ h9 => nomatch h9) (q0 := 5) (ci := 2) rfl rfl (pw_at (by omega) (k180_1)) rfl hl.1 (Nat.le_of_ble_eq_true rfl) dX2_run_184 ⟨by decide, by decide⟩ (fun w1 H locs hp hP hD hS => ?_)
      obtain ⟨G3, rfl, hv3, ho3⟩ := hp
      have hP : va_P D vwCl (pw NP ad G3) H := hP
      have hD : va_D A (pw NP ad G3) := hD
      have k184_0 : G3 (6) = .inr (0, [.ref (ad 7), .ref (ad 10), .ref (ad 19), .ref (ad 21), .ref (ad 23), .ref (ad 25), .ref (ad 27), .ref (ad 29), .ref (ad 31)]) := (ho3 (6) (by omega)).trans (k180_0)
      have k184_1 : G3 (5) = .inr (2, [.ref (ad 6), .ref (ad 33), .ref (ad 34), .ref (ad 35), .ref (ad 454), .ref (ad 459), .ref (ad 464), .ref (ad 466), .ref (ad 468), .ref (ad 470), .ref (ad 36), .ref (ad L9), .int (iZ (((n : Nat) : Int))), .int (iZ (peT (pe V n n))), .int (iZ (((peR (pe V n n) : Nat) : Int))), .int (iZ (((peH (pe V n n) : Nat) : Int))), .int (iZ (pe_svk (peM (pe V n n)) n (peR (pe V n n)) (n - peR (pe V n n))))]) := (ho3 (5) (by omega)).trans (k180_1)
      exact zr_vret hQ hx hb hr hlk dX2_run_187 hK hP hD hS (by omega) (by omega) (⟨G3, ρ, PR, L9, rl, rfl, k184_1, hst2.keep (ho3 (_) (by omega)) (ho3 (_) (by omega)) (ho3 (_) (by omega)) (fun r9 h => ⟨ho3 (_) (by omega), ho3 (_) (by omega)⟩), ⟨hwk2.1.keep (fun k q1 q2 => ho3 (k) (by omega)), hwk2.2.1.keep (ho3 (_) (by omega)) (ho3 (_) (by omega)), hwk2.2.2.1.keep (ho3 (_) (by omega)) (ho3 (_) (by omega)), hwk2.2.2.2.1.keep (ho3 (_) (by omega)) (ho3 (_) (by omega)), hwk2.2.2.2.2.1.keep (fun k q1 q2 => ho3 (k) (by omega)), hv3.has, hwk2.2.2.2.2.2.2.1.keep (fun k q1 q2 => ho3 (k) (by omega)), fun j hj => (hwk2.2.2.2.2.2.2.2 j hj).keep (fun k q1 q2 => ho3 (k) (by omega))⟩, hHb2.keep (fun k q1 q2 => ho3 (k) (by omega)), (ho3 (35) (by omega)).trans hpr2, hPR, (fun i9 h => (hRw2 i9 h).keep hn (fun k q1 q2 => by have := hst1.2.2.2.2.1 i9 (by omega); exact ho3 (k) (by omega))), hL2.keep (fun k q1 q2 => by have := hL9.1; have := hL9.2.2.2.1; exact ho3 (k) (by omega)), hL9, (fun c8 h => (hu2 c8 h).keep (fun k q1 q2 => ho3 (k) (by omega))), by rw [if_neg hrn]; exact hv3, fun i9 h => (ho3 (i9) (by omega)).trans ((ho2 i9 (by omega) (fun c8 q8 => by omega)).trans ((ho176 i9 (by omega)).trans (hof i9 h)))⟩)
  have clp : ∀ (t : Nat) (c9 : Nat) (G1 : Nat → va_E) (ρ : Nat → Nat) (PR : Nat → Int) (L9 : Nat) (rl : Nat) (H : Heap) (locs : List Loc) (ls : Array Slot), (c9 + t = n) → (G1 5 = .inr (2, [.ref (ad 6), .ref (ad 33), .ref (ad 34), .ref (ad 35), .ref (ad 454), .ref (ad 459), .ref (ad 464), .ref (ad 466), .ref (ad 468), .ref (ad 470), .ref (ad 36), .ref (ad L9), .int (iZ (((n : Nat) : Int))), .int (iZ (peT (pe V n c9))), .int (iZ (((peR (pe V n c9) : Nat) : Int))), .int (iZ (((peH (pe V n c9) : Nat) : Int))), .int (iZ (sv))])) → (pSt cE cF cR ad G1 ρ) → (pWk cI ad G1) → (pHb cI ad G1) → (G1 35 = aI cI 6 PR) → (∀ j9 : Nat, j9 < c9 → PR j9 = peP (pe V n c9) j9) → (∀ i9 : Nat, i9 < n → pRw cI ad G1 (ρ i9) n (c9) (peE (pe V n c9) i9) (peM (pe V n c9) i9) ((pe_sc V (peI (pe V n c9) i9) (n + 1) : Nat) : Int) (if i9 < peR (pe V n c9) then ((peC (pe V n c9) i9 : Nat) : Int) else -1)) → (pEn cI ad G1 L9 rl (peL (pe V n c9) (peR (pe V n c9)))) → (((peL (pe V n c9) (peR (pe V n c9))).natAbs : Int) < bg_p rl) → (pLp NP L9 rl c9) → (peH (pe V n c9) ≤ 2147483647) → (∀ i9 : Nat, i9 < 5 ∨ 472 < i9 → G1 i9 = G i9) →  va_P D vwCl (pw NP ad G1) H → va_D A (pw NP ad G1) → va_S A s.heap H locs → lv_has ls 6 [(2, .int (iZ (((c9 : Nat) : Int)))), (0, .ref (ad 5)), (1, .ref (ad 2))] → W zp l ze (zRm 6 220) s zm args below meth zc H locs 0 0 Q (F0 zm 7 ls []) := by
    intro t
    induction t with
    | zero =>
      intro c9 G1 ρ PR L9 rl H locs ls hct hel1 hst1 hwk hHb hpr hPR hRw hL hLb hL9 hHm hof hP hD hS hl
      refine lv_iload_n hx hb dX2_run_7 rfl (lv_at hl 0 rfl) ?_
      refine lv_aload_n hx hb dX2_run_8 rfl (lv_at hl 1 rfl) ?_
      refine va_get (D := D) (ci := 2) (v := .int (iZ (((n : Nat) : Int)))) (C := RX2) (T := TX2) (N := 17) hx hb hts hin2 hown hK hP (5) (pw_at (by omega) (hel1)) rfl 12 (by decide) q_f_RX2_85_Elimination_n_I (fun _ h9 => h9) rfl dX2_run_9 ?_
      refine zr_icmp_ge hx hb 171 ⟨by omega, by omega⟩ ⟨by omega, by omega⟩ dX2_run_12 (by decide) (fun h_12 => ?_) (fun h_12 => ?_)
      · obtain rfl : c9 = n := by omega
        exact jF G1 ρ PR L9 rl H locs ls hel1 hst1 hwk hHb hpr hPR hRw hL hLb hL9 hHm hof hP hD hS (lv_sub hl [1, 2] rfl)
      · exfalso; omega
    | succ t ih =>
      intro c9 G1 ρ PR L9 rl H locs ls hct hel1 hst1 hwk hHb hpr hPR hRw hL hLb hL9 hHm hof hP hD hS hl
      have hVc := pe_ok hT h1n hn c9 (by omega)
      have hVs := pe_ok hT h1n hn (c9 + 1) (by omega)
      by_cases hyes : (pe_row (pe V n c9) n c9) < n
      · obtain ⟨R9, r9, hRe, hre, hrR, hRn, hrn, eR', eT', eP', eH', eC', eI', eL', hp0, hdv, hrow9, hM9⟩ := pe_Y hT h1n hn (by omega) hyes
        subst hRe
        subst hre
        refine lv_iload_n hx hb dX2_run_7 rfl (lv_at hl 0 rfl) ?_
        refine lv_aload_n hx hb dX2_run_8 rfl (lv_at hl 1 rfl) ?_
        refine va_get (D := D) (ci := 2) (v := .int (iZ (((n : Nat) : Int)))) (C := RX2) (T := TX2) (N := 17) hx hb hts hin2 hown hK hP (5) (pw_at (by omega) (hel1)) rfl 12 (by decide) q_f_RX2_85_Elimination_n_I (fun _ h9 => h9) rfl dX2_run_9 ?_
        refine zr_icmp_ge hx hb 171 ⟨by omega, by omega⟩ ⟨by omega, by omega⟩ dX2_run_12 (by decide) (fun h_12 => ?_) (fun h_12 => ?_)
        · exfalso; omega
        · refine lv_aload_n hx hb dX2_run_15 rfl (lv_at hl 1 rfl) ?_
          refine lv_iload_n hx hb dX2_run_16 rfl (lv_at hl 0 rfl) ?_
          refine zc_Vi (As := [.int (iZ (((c9 : Nat) : Int)))]) (rest := []) (wr := []) ⟨hx, hb, hml, hown, hts⟩ (p_firstRowWith l D cI cJ cE cF cR NP ad G1 c9 (peE (pe V n c9)) L9 n (peR (pe V n c9)) (peT (pe V n c9)) ((peH (pe V n c9) : Nat) : Int) sv hel1 ρ (fun i9 => (if i9 < peR (pe V n c9) then ((peC (pe V n c9) i9 : Nat) : Int) else -1)) hst1 (fun i9 h => (hRw i9 h).1) (fun i9 h1 h2 => (hRw i9 h2).2.1 c9 (Nat.le_refl _) (by omega)) hn hVc.1.2.1 (by omega) hNP) (cwV 1 hts gX2_run_X2_firstRowWith rfl rfl rfl (by decide +kernel) ⟨Nat.le_of_ble_eq_true rfl, Nat.le_of_ble_eq_true rfl⟩) hN hK hP hD hS hA (List.range NP) [] (pw_all _ _ _) rfl (pw_nd _) rfl (fun _ h9 => nomatch h9) (q0 := 5) (ci := 2) rfl rfl (pw_at (by omega) (hel1)) rfl hl.1 (Nat.le_of_ble_eq_true rfl) dX2_run_17 ⟨by decide, by decide⟩ (fun rf w1 H locs hz17 hp hP hD hS => ?_)
          obtain ⟨G9, rfl, hrf, ho9⟩ := hp
          obtain rfl : G1 = G9 := (funext ho9).symm
          rw [peV_row hVc (by omega)] at hrf
          obtain rfl : rf = (((pe_row (pe V n c9) n c9) : Nat) : Int) := by rcases hrf with ⟨_, q⟩ | ⟨q, _⟩; exact q; exact absurd hyes q
          have hP : va_P D vwCl (pw NP ad G1) H := hP
          have hD : va_D A (pw NP ad G1) := hD
          refine lv_istore_n (lv' := [(3, .int (iZ ((((pe_row (pe V n c9) n c9) : Nat) : Int)))), (2, .int (iZ (((c9 : Nat) : Int)))), (0, .ref (ad 5)), (1, .ref (ad 2))]) hx hb dX2_run_20 rfl hl (by decide) rfl (fun ls hl => ?_)
          refine lv_aload_n hx hb dX2_run_21 rfl (lv_at hl 2 rfl) ?_
          refine va_get (D := D) (ci := 2) (v := .ref (ad 35)) (C := RX2) (T := TX2) (N := 17) hx hb hts hin2 hown hK hP (5) (pw_at (by omega) (hel1)) rfl 3 (by decide) q_f_RX2_30_Elimination_pivotRows_I (fun _ h9 => h9) rfl dX2_run_22 ?_
          refine lv_iload_n hx hb dX2_run_25 rfl (lv_at hl 1 rfl) ?_
          refine lv_iload_n hx hb dX2_run_26 rfl (lv_at hl 0 rfl) ?_
          refine lv_iconst (v := iZ (-1)) hx hb dX2_run_27 rfl ?_
          refine zr_icmp_ne hx hb 35 ⟨by omega, by omega⟩ (by decide) dX2_run_28 (by decide) (fun h_28 => ?_) (fun h_28 => ?_)
          · refine lv_aload_n hx hb dX2_run_35 rfl (lv_at hl 2 rfl) ?_
            refine va_get (D := D) (ci := 2) (v := .int (iZ (((peR (pe V n c9) : Nat) : Int)))) (C := RX2) (T := TX2) (N := 17) hx hb hts hin2 hown hK hP (5) (pw_at (by omega) (hel1)) rfl 14 (by decide) q_f_RX2_91_Elimination_pivots_I (fun _ h9 => h9) rfl dX2_run_36 ?_
            refine zr_iast hx hb hK hP hD hS (35) 0 (pw_at (by omega) (hpr)) rfl (c9) (by omega) (by omega) (by omega) dX2_run_39 (fun H locs hP hD hS => ?_)
            rw [pw_set] at hP hD
            obtain ⟨G_39, hg39⟩ : ∃ g : Nat → va_E, g = zu G1 (35) (aI cI (6) (zu (PR) (c9) (((peR (pe V n c9) : Nat) : Int)))) := ⟨_, rfl⟩
            have hP : va_P D vwCl (pw NP ad G_39) H := by rw [hg39]; exact hP
            have hD : va_D A (pw NP ad G_39) := by rw [hg39]; exact hD
            have ho39 : ∀ k : Nat, k ≠ 35 → G_39 k = G1 k := fun k hk => by rw [hg39]; exact zu_n _ _ hk
            have he39 : G_39 (35) = aI cI (6) (zu (PR) (c9) (((peR (pe V n c9) : Nat) : Int))) := by rw [hg39]; exact zu_s _ _ _
            have k39_0 : G_39 (5) = .inr (2, [.ref (ad 6), .ref (ad 33), .ref (ad 34), .ref (ad 35), .ref (ad 454), .ref (ad 459), .ref (ad 464), .ref (ad 466), .ref (ad 468), .ref (ad 470), .ref (ad 36), .ref (ad L9), .int (iZ (((n : Nat) : Int))), .int (iZ (peT (pe V n c9))), .int (iZ (((peR (pe V n c9) : Nat) : Int))), .int (iZ (((peH (pe V n c9) : Nat) : Int))), .int (iZ (sv))]) := (ho39 (5) (by omega)).trans (hel1)
            have k39_2 : G_39 (33) = aR cR (6) (fun i => some (ad (37 + 66 * ρ i))) := (ho39 (33) (by omega)).trans (hst1.1)
            refine lv_iload_n hx hb dX2_run_40 rfl (lv_at hl 0 rfl) ?_
            refine lv_iconst (v := iZ (-1)) hx hb dX2_run_41 rfl ?_
            refine zr_icmp_ne hx hb 48 ⟨by omega, by omega⟩ (by decide) dX2_run_42 (by decide) (fun h_42 => ?_) (fun h_42 => ?_)
            · have hst39 : pSt cE cF cR ad G_39 ρ := hst1.keep (ho39 _ (by omega)) (ho39 _ (by omega)) (ho39 _ (by omega)) (fun r9 h => ⟨ho39 _ (by omega), ho39 _ (by omega)⟩)
              obtain ⟨PR2, hPR2⟩ : ∃ f : Nat → Int, f = zu PR c9 (((peR (pe V n c9)) : Nat) : Int) := ⟨_, rfl⟩
              refine lv_aload_n hx hb dX2_run_48 rfl (lv_at hl 2 rfl) ?_
              refine lv_aload_n hx hb dX2_run_49 rfl (lv_at hl 2 rfl) ?_
              refine va_get (D := D) (ci := 2) (v := .int (iZ (((peR (pe V n c9) : Nat) : Int)))) (C := RX2) (T := TX2) (N := 17) hx hb hts hin2 hown hK hP (5) (pw_at (by omega) (k39_0)) rfl 14 (by decide) q_f_RX2_91_Elimination_pivots_I (fun _ h9 => h9) rfl dX2_run_50 ?_
              refine lv_iload_n hx hb dX2_run_53 rfl (lv_at hl 0 rfl) ?_
              refine zc_Vv (As := [.int (iZ (((peR (pe V n c9) : Nat) : Int))), .int (iZ ((((pe_row (pe V n c9) n c9) : Nat) : Int)))]) (rest := []) (wr := []) ⟨hx, hb, hml, hown, hts⟩ (p_changePlaces l D cI cJ cE cF cR NP ad G_39 (peR (pe V n c9)) (pe_row (pe V n c9) n c9) L9 n (peT (pe V n c9)) (((peR (pe V n c9)) : Nat) : Int) ((peH (pe V n c9) : Nat) : Int) sv (k39_0) ρ (fun i9 => (if i9 < peR (pe V n c9) then ((peC (pe V n c9) i9 : Nat) : Int) else -1)) hst39 (fun i9 h => (ho39 _ (by omega)).trans (hRw i9 h).1) hrn hRn hn hNP) (cwV 2 hts gX2_run_X2_changePlaces rfl rfl rfl (by decide +kernel) ⟨Nat.le_of_ble_eq_true rfl, Nat.le_of_ble_eq_true rfl⟩) hN hK hP hD hS hA (List.range NP) [] (pw_all _ _ _) rfl (pw_nd _) rfl (fun _ h9 => nomatch h9) (q0 := 5) (ci := 2) rfl rfl (pw_at (by omega) (k39_0)) rfl hl.1 (Nat.le_of_ble_eq_true rfl) dX2_run_54 ⟨by decide, by decide⟩ (fun w1 H locs hp hP hD hS => ?_)
              obtain ⟨G2, rfl, hel2, h33, ho2⟩ := hp
              rw [show (if (peR (pe V n c9)) = (pe_row (pe V n c9) n c9) then peT (pe V n c9) else - peT (pe V n c9)) = peT (pe V n (c9 + 1)) by rw [eT']; by_cases w : (peR (pe V n c9)) = (pe_row (pe V n c9) n c9); (rw [if_pos w, if_pos w.symm]); (rw [if_neg w, if_neg (Ne.symm w)])] at hel2
              have hst2 := pSt_sw hst39 hrn hRn hn h33 ho2
              obtain ⟨ρ2, hρ2⟩ : ∃ f : Nat → Nat, f = fun i => ρ (pe_sg (pe_row (pe V n c9) n c9) (peR (pe V n c9)) i) := ⟨_, rfl⟩
              rw [← hρ2] at hst2
              have hall : ∀ k9 : Nat, k9 ≠ 5 → k9 ≠ 33 → k9 ≠ 35 → G2 k9 = G1 k9 := fun k9 q1 q2 q3 => (ho2 k9 q1 q2).trans (ho39 k9 q3)
              have hP : va_P D vwCl (pw NP ad G2) H := hP
              have hD : va_D A (pw NP ad G2) := hD
              have k54_2 : G2 (35) = aI cI (6) (zu (PR) (c9) (((peR (pe V n c9) : Nat) : Int))) := (ho2 (35) (by omega) (by omega)).trans (he39)
              refine lv_aload_n hx hb dX2_run_57 rfl (lv_at hl 2 rfl) ?_
              refine va_get (D := D) (ci := 2) (v := .ref (ad 33)) (C := RX2) (T := TX2) (N := 17) hx hb hts hin2 hown hK hP (5) (pw_at (by omega) (hel2)) rfl 1 (by decide) q_f_RX2_20_Elimination_rows_LRow (fun _ h9 => h9) rfl dX2_run_58 ?_
              refine lv_aload_n hx hb dX2_run_61 rfl (lv_at hl 2 rfl) ?_
              refine va_get (D := D) (ci := 2) (v := .int (iZ ((((peR (pe V n c9)) : Nat) : Int)))) (C := RX2) (T := TX2) (N := 17) hx hb hts hin2 hown hK hP (5) (pw_at (by omega) (hel2)) rfl 14 (by decide) q_f_RX2_91_Elimination_pivots_I (fun _ h9 => h9) rfl dX2_run_62 ?_
              refine zr_aald hx hb hK hP (33) 4 (pw_at (by omega) (hst2.1)) rfl ((peR (pe V n c9))) (by omega) (by omega) (by omega) (v := ad (37 + 66 * ρ2 (peR (pe V n c9)))) (rfl) dX2_run_65 ?_
              refine lv_astore (lv' := [(4, .ref (ad (37 + 66 * ρ2 (peR (pe V n c9))))), (3, .int (iZ ((((pe_row (pe V n c9) n c9) : Nat) : Int)))), (2, .int (iZ (((c9 : Nat) : Int)))), (0, .ref (ad 5)), (1, .ref (ad 2))]) hx hb dX2_run_66 hl (by decide) rfl (fun ls hl => ?_)
              refine lv_iconst (v := iZ 0) hx hb dX2_run_68 rfl ?_
              refine zr_eqi (((0 : Nat) : Int)) (by rfl) ?_
              refine lv_istore (lv' := [(5, .int (iZ (((0 : Nat) : Int)))), (4, .ref (ad (37 + 66 * ρ2 (peR (pe V n c9))))), (3, .int (iZ ((((pe_row (pe V n c9) n c9) : Nat) : Int)))), (2, .int (iZ (((c9 : Nat) : Int)))), (0, .ref (ad 5)), (1, .ref (ad 2))]) hx hb dX2_run_69 hl (by decide) rfl (fun ls hl => ?_)
              have ihC := ih
              have klp : ∀ (t : Nat) (k : Nat) (G3 : Nat → va_E) (H : Heap) (locs : List Loc) (ls : Array Slot), (k + t = n) → (G3 5 = .inr (2, [.ref (ad 6), .ref (ad 33), .ref (ad 34), .ref (ad 35), .ref (ad 454), .ref (ad 459), .ref (ad 464), .ref (ad 466), .ref (ad 468), .ref (ad 470), .ref (ad 36), .ref (ad L9), .int (iZ (((n : Nat) : Int))), .int (iZ (peT (pe V n (c9 + 1)))), .int (iZ ((((peR (pe V n c9)) : Nat) : Int))), .int (iZ (((peH (pe V n c9) : Nat) : Int))), .int (iZ (sv))])) → (pSt cE cF cR ad G3 ρ2) → (pWk cI ad G3) → (pHb cI ad G3) → (G3 35 = aI cI 6 PR2) → (∀ i9 : Nat, i9 < n → ((i9 < k ∧ i9 ≠ (peR (pe V n c9))) → pRw cI ad G3 (ρ2 i9) n (c9 + 1) (peE (pe V n (c9 + 1)) i9) (peM (pe V n (c9 + 1)) i9) ((pe_sc V (peI (pe V n (c9 + 1)) i9) (n + 1) : Nat) : Int) (if i9 < (peR (pe V n c9)) then ((peC (pe V n c9) i9 : Nat) : Int) else -1)) ∧ (¬ (i9 < k ∧ i9 ≠ (peR (pe V n c9))) → pRw cI ad G3 (ρ2 i9) n c9 (peE (pe V n c9) (pe_sg (pe_row (pe V n c9) n c9) (peR (pe V n c9)) i9)) (peM (pe V n c9) (pe_sg (pe_row (pe V n c9) n c9) (peR (pe V n c9)) i9)) ((pe_sc V (peI (pe V n (c9 + 1)) i9) (n + 1) : Nat) : Int) (if i9 < (peR (pe V n c9)) then ((peC (pe V n c9) i9 : Nat) : Int) else -1))) → (pEn cI ad G3 L9 rl (peL (pe V n c9) (peR (pe V n c9)))) → (∀ i9 : Nat, i9 < 5 ∨ 472 < i9 → G3 i9 = G i9) →  va_P D vwCl (pw NP ad G3) H → va_D A (pw NP ad G3) → va_S A s.heap H locs → lv_has ls 6 [(5, .int (iZ (((k : Nat) : Int)))), (4, .ref (ad (37 + 66 * ρ2 (peR (pe V n c9))))), (2, .int (iZ (((c9 : Nat) : Int)))), (0, .ref (ad 5)), (1, .ref (ad 2))] → W zp l ze (zRm 6 220) s zm args below meth zc H locs 0 0 Q (F0 zm 71 ls []) := by
                intro t
                induction t with
                | zero =>
                  intro k G3 H locs ls hkt he3 hs3 hw3 hb3 hp3 hR3 hL3 ho3 hP hD hS hl
                  refine lv_iload hx hb dX2_run_71 (lv_at hl 0 rfl) ?_
                  refine lv_aload_n hx hb dX2_run_73 rfl (lv_at hl 3 rfl) ?_
                  refine va_get (D := D) (ci := 2) (v := .int (iZ (((n : Nat) : Int)))) (C := RX2) (T := TX2) (N := 17) hx hb hts hin2 hown hK hP (5) (pw_at (by omega) (he3)) rfl 12 (by decide) q_f_RX2_85_Elimination_n_I (fun _ h9 => h9) rfl dX2_run_74 ?_
                  refine zr_icmp_ge hx hb 123 ⟨by omega, by omega⟩ ⟨by omega, by omega⟩ dX2_run_77 (by decide) (fun h_77 => ?_) (fun h_77 => ?_)
                  · have hq2 := hs3.2.2.2.2.1 (peR (pe V n c9)) (by omega)
                    have htop := (hR3 (peR (pe V n c9)) hrn).2 (fun w => w.2 rfl)
                    rw [pe_sg_t] at htop
                    refine lv_aload hx hb dX2_run_123 (lv_at hl 1 rfl) ?_
                    refine lv_iload_n hx hb dX2_run_125 rfl (lv_at hl 2 rfl) ?_
                    refine va_putN (D := D) (ci := 8) (v := .int (iZ (((c9 : Nat) : Int)))) (ty := tyX8 3) (C := RX8) (T := TX8) (N := 4) hx hb hts hin8 tyX8 tyX8_ok nmX8 hown hK hP hD hS (37 + 66 * ρ2 (peR (pe V n c9))) (pw_at (by omega) (htop.1)) rfl 3 (by decide) (hN.F 20 rfl) (fun _ h9 => h9) rfl (tyX8_ok 3 (by decide)) rfl rfl (Nat.le_of_ble_eq_true rfl) dX2_run_126 (fun H locs hP hD hS => ?_)
                    rw [pw_set] at hP hD
                    obtain ⟨G_126, hg126⟩ : ∃ g : Nat → va_E, g = zu G3 (37 + 66 * ρ2 (peR (pe V n c9))) (.inr (8, [.ref (ad (38 + 66 * ρ2 (peR (pe V n c9)))), .ref (ad (39 + 66 * ρ2 (peR (pe V n c9)))), .ref (ad (96 + 66 * ρ2 (peR (pe V n c9)))), .int (iZ (((c9 : Nat) : Int)))])) := ⟨_, rfl⟩
                    have hP : va_P D vwCl (pw NP ad G_126) H := by rw [hg126]; exact hP
                    have hD : va_D A (pw NP ad G_126) := by rw [hg126]; exact hD
                    have ho126 : ∀ k : Nat, k ≠ 37 + 66 * ρ2 (peR (pe V n c9)) → G_126 k = G3 k := fun k hk => by rw [hg126]; exact zu_n _ _ hk
                    have he126 : G_126 (37 + 66 * ρ2 (peR (pe V n c9))) = .inr (8, [.ref (ad (38 + 66 * ρ2 (peR (pe V n c9)))), .ref (ad (39 + 66 * ρ2 (peR (pe V n c9)))), .ref (ad (96 + 66 * ρ2 (peR (pe V n c9)))), .int (iZ (((c9 : Nat) : Int)))]) := by rw [hg126]; exact zu_s _ _ _
                    have k126_0 : G_126 (5) = .inr (2, [.ref (ad 6), .ref (ad 33), .ref (ad 34), .ref (ad 35), .ref (ad 454), .ref (ad 459), .ref (ad 464), .ref (ad 466), .ref (ad 468), .ref (ad 470), .ref (ad 36), .ref (ad L9), .int (iZ (((n : Nat) : Int))), .int (iZ (peT (pe V n (c9 + 1)))), .int (iZ ((((peR (pe V n c9)) : Nat) : Int))), .int (iZ (((peH (pe V n c9) : Nat) : Int))), .int (iZ (sv))]) := (ho126 (5) (by omega)).trans (he3)
                    have k126_1 : G_126 (33) = aR cR (6) (fun i => some (ad (37 + 66 * ρ2 i))) := (ho126 (33) (by omega)).trans (hs3.1)
                    have k126_3 : G_126 (38 + 66 * ρ2 (peR (pe V n c9))) = aR cE (7) (fun j => some (ad (40 + 66 * ρ2 (peR (pe V n c9)) + 8 * j))) := (ho126 (38 + 66 * ρ2 (peR (pe V n c9))) (by omega)).trans ((hs3.2.2.2.1 _ hq2).1)
                    have hRn9 : ∀ i9 : Nat, i9 < n → pRw cI ad G_126 (ρ2 i9) n (c9 + 1) (peE (pe V n (c9 + 1)) i9) (peM (pe V n (c9 + 1)) i9) ((pe_sc V (peI (pe V n (c9 + 1)) i9) (n + 1) : Nat) : Int) (if i9 < peR (pe V n (c9 + 1)) then ((peC (pe V n (c9 + 1)) i9 : Nat) : Int) else -1) := fun i9 h => by rw [eR', eC']; by_cases w : i9 = (peR (pe V n c9)); (rw [w, zu_s, if_pos (by omega)]; exact ⟨he126, (fun j9 h1 h2 => by rw [(hrow9 j9 h2).1]; exact (htop.2.1 j9 (by omega) h2).keep (fun k9 q1 q2 => ho126 k9 (by omega))), (fun j9 h1 => by rw [(hrow9 j9 h1).2]; exact (htop.2.2.1 j9 h1).keep (fun k9 q1 q2 => ho126 k9 (by omega))), htop.2.2.2.keep (ho126 _ (by omega)) (ho126 _ (by omega))⟩); (have hn9 := hs3.2.2.2.2.2 i9 (peR (pe V n c9)) (by omega) (by omega) w); (have hnw := ((hR3 i9 h).1 (by omega)).keep (G' := G_126) hn (fun k9 q1 q2 => ho126 k9 (by omega))); rw [zu_n _ _ w]; (rw [show (if i9 < (peR (pe V n c9)) + 1 then ((peC (pe V n c9) i9 : Nat) : Int) else -1) = (if i9 < (peR (pe V n c9)) then ((peC (pe V n c9) i9 : Nat) : Int) else -1) by (by_cases w4 : i9 < (peR (pe V n c9)); (rw [if_pos w4, if_pos (by omega)]); rw [if_neg w4, if_neg (by omega)])]); exact hnw
                    refine lv_aload_n hx hb dX2_run_129 rfl (lv_at hl 3 rfl) ?_
                    refine lv_aload hx hb dX2_run_130 (lv_at hl 1 rfl) ?_
                    refine va_getN (D := D) (ci := 8) (v := .ref (ad (38 + 66 * ρ2 (peR (pe V n c9))))) (C := RX8) (T := TX8) (N := 4) hx hb hts hin8 hown hK hP (37 + 66 * ρ2 (peR (pe V n c9))) (pw_at (by omega) (he126)) rfl 0 (by decide) (hN.F 16 rfl) (fun _ h9 => h9) rfl dX2_run_132 ?_
                    refine lv_iload_n hx hb dX2_run_135 rfl (lv_at hl 2 rfl) ?_
                    refine zr_aald hx hb hK hP (38 + 66 * ρ2 (peR (pe V n c9))) 2 (pw_at (by omega) (k126_3)) rfl (c9) (by omega) (by omega) (by omega) (v := ad (40 + 66 * ρ2 (peR (pe V n c9)) + 8 * c9)) (rfl) dX2_run_136 ?_
                    refine va_put (D := D) (ci := 2) (v := .ref (ad (40 + 66 * ρ2 (peR (pe V n c9)) + 8 * c9))) (ty := tyX2 11) (C := RX2) (T := TX2) (N := 17) hx hb hts hin2 tyX2 tyX2_ok nmX2 hown hK hP hD hS (5) (pw_at (by omega) (k126_0)) rfl 11 (by decide) q_f_RX2_82_Elimination_lastPivot_LEntry (fun _ h9 => h9) rfl (tyX2_ok 11 (by decide)) rfl rfl (Nat.le_of_ble_eq_true rfl) dX2_run_137 (fun H locs hP hD hS => ?_)
                    rw [pw_set] at hP hD
                    obtain ⟨G_137, hg137⟩ : ∃ g : Nat → va_E, g = zu G_126 (5) (.inr (2, [.ref (ad 6), .ref (ad 33), .ref (ad 34), .ref (ad 35), .ref (ad 454), .ref (ad 459), .ref (ad 464), .ref (ad 466), .ref (ad 468), .ref (ad 470), .ref (ad 36), .ref (ad (40 + 66 * ρ2 (peR (pe V n c9)) + 8 * c9)), .int (iZ (((n : Nat) : Int))), .int (iZ (peT (pe V n (c9 + 1)))), .int (iZ ((((peR (pe V n c9)) : Nat) : Int))), .int (iZ (((peH (pe V n c9) : Nat) : Int))), .int (iZ (sv))])) := ⟨_, rfl⟩
                    have hP : va_P D vwCl (pw NP ad G_137) H := by rw [hg137]; exact hP
                    have hD : va_D A (pw NP ad G_137) := by rw [hg137]; exact hD
                    have ho137 : ∀ k : Nat, k ≠ 5 → G_137 k = G_126 k := fun k hk => by rw [hg137]; exact zu_n _ _ hk
                    have he137 : G_137 (5) = .inr (2, [.ref (ad 6), .ref (ad 33), .ref (ad 34), .ref (ad 35), .ref (ad 454), .ref (ad 459), .ref (ad 464), .ref (ad 466), .ref (ad 468), .ref (ad 470), .ref (ad 36), .ref (ad (40 + 66 * ρ2 (peR (pe V n c9)) + 8 * c9)), .int (iZ (((n : Nat) : Int))), .int (iZ (peT (pe V n (c9 + 1)))), .int (iZ ((((peR (pe V n c9)) : Nat) : Int))), .int (iZ (((peH (pe V n c9) : Nat) : Int))), .int (iZ (sv))]) := by rw [hg137]; exact zu_s _ _ _
                    have k137_1 : G_137 (33) = aR cR (6) (fun i => some (ad (37 + 66 * ρ2 i))) := (ho137 (33) (by omega)).trans (k126_1)
                    have k137_2 : G_137 (38 + 66 * ρ2 (peR (pe V n c9))) = aR cE (7) (fun j => some (ad (40 + 66 * ρ2 (peR (pe V n c9)) + 8 * j))) := (ho137 (38 + 66 * ρ2 (peR (pe V n c9))) (by omega)).trans (k126_3)
                    have k137_3 : G_137 (37 + 66 * ρ2 (peR (pe V n c9))) = .inr (8, [.ref (ad (38 + 66 * ρ2 (peR (pe V n c9)))), .ref (ad (39 + 66 * ρ2 (peR (pe V n c9)))), .ref (ad (96 + 66 * ρ2 (peR (pe V n c9)))), .int (iZ (((c9 : Nat) : Int)))]) := (ho137 (37 + 66 * ρ2 (peR (pe V n c9))) (by omega)).trans (he126)
                    refine lv_aload_n hx hb dX2_run_140 rfl (lv_at hl 3 rfl) ?_
                    refine lv_dup hx hb dX2_run_141 rfl ?_
                    refine va_get (D := D) (ci := 2) (v := .int (iZ ((((peR (pe V n c9)) : Nat) : Int)))) (C := RX2) (T := TX2) (N := 17) hx hb hts hin2 hown hK hP (5) (pw_at (by omega) (he137)) rfl 14 (by decide) q_f_RX2_91_Elimination_pivots_I (fun _ h9 => h9) rfl dX2_run_142 ?_
                    refine lv_iconst (v := iZ 1) hx hb dX2_run_145 rfl ?_
                    refine zr_iadd hx hb dX2_run_146 ?_
                    refine zr_eqi ((((peR (pe V n c9)) + 1 : Nat) : Int)) (by omega) ?_
                    refine va_put (D := D) (ci := 2) (v := .int (iZ ((((peR (pe V n c9)) + 1 : Nat) : Int)))) (ty := tyX2 14) (C := RX2) (T := TX2) (N := 17) hx hb hts hin2 tyX2 tyX2_ok nmX2 hown hK hP hD hS (5) (pw_at (by omega) (he137)) rfl 14 (by decide) q_f_RX2_91_Elimination_pivots_I (fun _ h9 => h9) rfl (tyX2_ok 14 (by decide)) rfl rfl (Nat.le_of_ble_eq_true rfl) dX2_run_147 (fun H locs hP hD hS => ?_)
                    rw [pw_set] at hP hD
                    obtain ⟨G_147, hg147⟩ : ∃ g : Nat → va_E, g = zu G_137 (5) (.inr (2, [.ref (ad 6), .ref (ad 33), .ref (ad 34), .ref (ad 35), .ref (ad 454), .ref (ad 459), .ref (ad 464), .ref (ad 466), .ref (ad 468), .ref (ad 470), .ref (ad 36), .ref (ad (40 + 66 * ρ2 (peR (pe V n c9)) + 8 * c9)), .int (iZ (((n : Nat) : Int))), .int (iZ (peT (pe V n (c9 + 1)))), .int (iZ ((((peR (pe V n c9)) + 1 : Nat) : Int))), .int (iZ (((peH (pe V n c9) : Nat) : Int))), .int (iZ (sv))])) := ⟨_, rfl⟩
                    have hP : va_P D vwCl (pw NP ad G_147) H := by rw [hg147]; exact hP
                    have hD : va_D A (pw NP ad G_147) := by rw [hg147]; exact hD
                    have ho147 : ∀ k : Nat, k ≠ 5 → G_147 k = G_137 k := fun k hk => by rw [hg147]; exact zu_n _ _ hk
                    have he147 : G_147 (5) = .inr (2, [.ref (ad 6), .ref (ad 33), .ref (ad 34), .ref (ad 35), .ref (ad 454), .ref (ad 459), .ref (ad 464), .ref (ad 466), .ref (ad 468), .ref (ad 470), .ref (ad 36), .ref (ad (40 + 66 * ρ2 (peR (pe V n c9)) + 8 * c9)), .int (iZ (((n : Nat) : Int))), .int (iZ (peT (pe V n (c9 + 1)))), .int (iZ ((((peR (pe V n c9)) + 1 : Nat) : Int))), .int (iZ (((peH (pe V n c9) : Nat) : Int))), .int (iZ (sv))]) := by rw [hg147]; exact zu_s _ _ _
                    have k147_0 : G_147 (33) = aR cR (6) (fun i => some (ad (37 + 66 * ρ2 i))) := (ho147 (33) (by omega)).trans (k137_1)
                    have k147_1 : G_147 (38 + 66 * ρ2 (peR (pe V n c9))) = aR cE (7) (fun j => some (ad (40 + 66 * ρ2 (peR (pe V n c9)) + 8 * j))) := (ho147 (38 + 66 * ρ2 (peR (pe V n c9))) (by omega)).trans (k137_2)
                    have k147_2 : G_147 (37 + 66 * ρ2 (peR (pe V n c9))) = .inr (8, [.ref (ad (38 + 66 * ρ2 (peR (pe V n c9)))), .ref (ad (39 + 66 * ρ2 (peR (pe V n c9)))), .ref (ad (96 + 66 * ρ2 (peR (pe V n c9)))), .int (iZ (((c9 : Nat) : Int)))]) := (ho147 (37 + 66 * ρ2 (peR (pe V n c9))) (by omega)).trans (k137_3)
                    have hRn147 : ∀ i9 : Nat, i9 < n → pRw cI ad G_147 (ρ2 i9) n (c9 + 1) (peE (pe V n (c9 + 1)) i9) (peM (pe V n (c9 + 1)) i9) ((pe_sc V (peI (pe V n (c9 + 1)) i9) (n + 1) : Nat) : Int) (if i9 < peR (pe V n (c9 + 1)) then ((peC (pe V n (c9 + 1)) i9 : Nat) : Int) else -1) := fun i9 h => (hRn9 i9 h).keep hn (fun k9 q1 q2 => (ho147 k9 (by omega)).trans (ho137 k9 (by omega)))
                    have hs147 : pSt cE cF cR ad G_147 ρ2 := hs3.keep ((ho147 _ (by omega)).trans ((ho137 _ (by omega)).trans (ho126 _ (by omega)))) ((ho147 _ (by omega)).trans ((ho137 _ (by omega)).trans (ho126 _ (by omega)))) ((ho147 _ (by omega)).trans ((ho137 _ (by omega)).trans (ho126 _ (by omega)))) (fun r9 h => ⟨(ho147 _ (by omega)).trans ((ho137 _ (by omega)).trans (ho126 _ (by omega))), (ho147 _ (by omega)).trans ((ho137 _ (by omega)).trans (ho126 _ (by omega)))⟩)
                    refine lv_aload_n hx hb dX2_run_150 rfl (lv_at hl 3 rfl) ?_
                    refine lv_aload_n hx hb dX2_run_151 rfl (lv_at hl 3 rfl) ?_
                    refine va_get (D := D) (ci := 2) (v := .int (iZ (((peH (pe V n c9) : Nat) : Int)))) (C := RX2) (T := TX2) (N := 17) hx hb hts hin2 hown hK hP (5) (pw_at (by omega) (he147)) rfl 15 (by decide) q_f_RX2_94_Elimination_mostLimbs_I (fun _ h9 => h9) rfl dX2_run_152 ?_
                    refine lv_aload_n hx hb dX2_run_155 rfl (lv_at hl 3 rfl) ?_
                    refine zc_Vi (As := []) (rest := [.int (iZ (((peH (pe V n c9) : Nat) : Int))), .ref (ad 5)]) (wr := []) ⟨hx, hb, hml, hown, hts⟩ (p_stateLimbs l D cI cJ cE cF cR NP ad G_147 (peM (pe V n (c9 + 1))) (40 + 66 * ρ2 (peR (pe V n c9)) + 8 * c9) n (peT (pe V n (c9 + 1))) ((((peR (pe V n c9)) + 1 : Nat)) : Int) ((peH (pe V n c9) : Nat) : Int) sv he147 ρ2 (fun i9 => (if i9 < peR (pe V n (c9 + 1)) then ((peC (pe V n (c9 + 1)) i9 : Nat) : Int) else -1)) hs147 (fun i9 h => (hRn147 i9 h).1) (fun i9 j9 h1 h2 => (hRn147 i9 h1).2.2.1 j9 h2) (fun i9 j9 h1 h2 => Nat.le_trans (rl_b (peV_b hT hn hVs h1 h2).1 (peV_b hT hn hVs h1 h2).2) (by decide)) hn hNP) (cwV 0 hts gX2_run_X2_stateLimbs rfl rfl rfl (by decide +kernel) ⟨Nat.le_of_ble_eq_true rfl, Nat.le_of_ble_eq_true rfl⟩) hN hK hP hD hS hA (List.range NP) [] (pw_all _ _ _) rfl (pw_nd _) rfl (fun _ h9 => nomatch h9) (q0 := 5) (ci := 2) rfl rfl (pw_at (by omega) (he147)) rfl hl.1 (Nat.le_of_ble_eq_true rfl) dX2_run_156 ⟨by decide, by decide⟩ (fun zl w1 H locs hz156 hp hP hD hS => ?_)
                    obtain ⟨G9, rfl, hr0, ho9⟩ := hp
                    obtain rfl : G_147 = G9 := (funext ho9).symm
                    subst hr0
                    have hP : va_P D vwCl (pw NP ad G_147) H := hP
                    have hD : va_D A (pw NP ad G_147) := hD
                    refine zr_mmax hx hb (hml.trans hl.1.symm) hown q_methodLink_RX2_129_Lib_Math_max_name q_static_Lib_Math_max_name q_initialized_java_lang_Math q_code_Lib_Math_max_name_Lib_Math_max_code_2_some_in (Nat.le_of_ble_eq_true rfl) (Nat.le_of_ble_eq_true rfl) (Nat.zero_le _) (Nat.zero_le _) ⟨by omega, by omega⟩ ⟨by omega, by omega⟩ dX2_run_159 ?_
                    refine zr_eqi (((peH (pe V n (c9 + 1)) : Nat) : Int)) (by rw [eH']; split <;> omega) ?_
                    refine va_put (D := D) (ci := 2) (v := .int (iZ (((peH (pe V n (c9 + 1)) : Nat) : Int)))) (ty := tyX2 15) (C := RX2) (T := TX2) (N := 17) hx hb hts hin2 tyX2 tyX2_ok nmX2 hown hK hP hD hS (5) (pw_at (by omega) (he147)) rfl 15 (by decide) q_f_RX2_94_Elimination_mostLimbs_I (fun _ h9 => h9) rfl (tyX2_ok 15 (by decide)) rfl rfl (Nat.le_of_ble_eq_true rfl) dX2_run_162 (fun H locs hP hD hS => ?_)
                    rw [pw_set] at hP hD
                    obtain ⟨G_162, hg162⟩ : ∃ g : Nat → va_E, g = zu G_147 (5) (.inr (2, [.ref (ad 6), .ref (ad 33), .ref (ad 34), .ref (ad 35), .ref (ad 454), .ref (ad 459), .ref (ad 464), .ref (ad 466), .ref (ad 468), .ref (ad 470), .ref (ad 36), .ref (ad (40 + 66 * ρ2 (peR (pe V n c9)) + 8 * c9)), .int (iZ (((n : Nat) : Int))), .int (iZ (peT (pe V n (c9 + 1)))), .int (iZ ((((peR (pe V n c9)) + 1 : Nat) : Int))), .int (iZ (((peH (pe V n (c9 + 1)) : Nat) : Int))), .int (iZ (sv))])) := ⟨_, rfl⟩
                    have hP : va_P D vwCl (pw NP ad G_162) H := by rw [hg162]; exact hP
                    have hD : va_D A (pw NP ad G_162) := by rw [hg162]; exact hD
                    have ho162 : ∀ k : Nat, k ≠ 5 → G_162 k = G_147 k := fun k hk => by rw [hg162]; exact zu_n _ _ hk
                    have he162 : G_162 (5) = .inr (2, [.ref (ad 6), .ref (ad 33), .ref (ad 34), .ref (ad 35), .ref (ad 454), .ref (ad 459), .ref (ad 464), .ref (ad 466), .ref (ad 468), .ref (ad 470), .ref (ad 36), .ref (ad (40 + 66 * ρ2 (peR (pe V n c9)) + 8 * c9)), .int (iZ (((n : Nat) : Int))), .int (iZ (peT (pe V n (c9 + 1)))), .int (iZ ((((peR (pe V n c9)) + 1 : Nat) : Int))), .int (iZ (((peH (pe V n (c9 + 1)) : Nat) : Int))), .int (iZ (sv))]) := by rw [hg162]; exact zu_s _ _ _
                    have k162_0 : G_162 (33) = aR cR (6) (fun i => some (ad (37 + 66 * ρ2 i))) := (ho162 (33) (by omega)).trans (k147_0)
                    have k162_1 : G_162 (38 + 66 * ρ2 (peR (pe V n c9))) = aR cE (7) (fun j => some (ad (40 + 66 * ρ2 (peR (pe V n c9)) + 8 * j))) := (ho162 (38 + 66 * ρ2 (peR (pe V n c9))) (by omega)).trans (k147_1)
                    have k162_2 : G_162 (37 + 66 * ρ2 (peR (pe V n c9))) = .inr (8, [.ref (ad (38 + 66 * ρ2 (peR (pe V n c9)))), .ref (ad (39 + 66 * ρ2 (peR (pe V n c9)))), .ref (ad (96 + 66 * ρ2 (peR (pe V n c9)))), .int (iZ (((c9 : Nat) : Int)))]) := (ho162 (37 + 66 * ρ2 (peR (pe V n c9))) (by omega)).trans (k147_2)
                    refine lv_iinc (v := iZ (((c9 + 1 : Nat) : Int))) (lv' := [(2, .int (iZ (((c9 + 1 : Nat) : Int)))), (5, .int (iZ (((k : Nat) : Int)))), (4, .ref (ad (37 + 66 * ρ2 (peR (pe V n c9))))), (0, .ref (ad 5)), (1, .ref (ad 2))]) hx hb dX2_run_165 hl (k := 2) rfl (by rw [show ((c9 + 1 : Nat) : Int) = ((c9 : Nat) : Int) + 1 by omega]; exact iZ_add _ _) (by decide) rfl (fun ls hl => ?_)
                    refine lv_goto (tgt := 7) hx hb dX2_run_168 (by decide) ?_
                    exact ihC (c9 + 1) G_162 ρ2 PR2 (40 + 66 * ρ2 (peR (pe V n c9)) + 8 * c9) 46 H locs ls (by omega) (by rw [eR']; exact he162) (hs147.keep (ho162 _ (by omega)) (ho162 _ (by omega)) (ho162 _ (by omega)) (fun r9 h => ⟨ho162 _ (by omega), ho162 _ (by omega)⟩)) (hw3.keep (fun k9 h => ((ho162 k9 (by omega)).trans ((ho147 k9 (by omega)).trans ((ho137 k9 (by omega)).trans (ho126 k9 (by omega))))))) (hb3.upd (fun q hq => by by_cases w : q = ρ2 (peR (pe V n c9)); (rw [w]; exact Or.inr ⟨_, (ho162 _ (by omega)).trans ((ho147 _ (by omega)).trans ((ho137 _ (by omega)).trans he126))⟩); exact Or.inl ((ho162 _ (by omega)).trans ((ho147 _ (by omega)).trans ((ho137 _ (by omega)).trans (ho126 _ (by omega)))))) (fun q j hq hj => Or.inl (fun k9 q1 q2 => by rcases Nat.lt_trichotomy q (ρ2 (peR (pe V n c9))) with w3 | w3 | w3 <;> exact ((ho162 k9 (by omega)).trans ((ho147 k9 (by omega)).trans ((ho137 k9 (by omega)).trans (ho126 k9 (by omega))))))) (fun q j hq hj => Or.inl (fun k9 q1 q2 => by rcases Nat.lt_trichotomy q (ρ2 (peR (pe V n c9))) with w3 | w3 | w3 <;> exact ((ho162 k9 (by omega)).trans ((ho147 k9 (by omega)).trans ((ho137 k9 (by omega)).trans (ho126 k9 (by omega))))))) (fun q hq => Or.inl (fun k9 q1 q2 => by rcases Nat.lt_trichotomy q (ρ2 (peR (pe V n c9))) with w3 | w3 | w3 <;> exact ((ho162 k9 (by omega)).trans ((ho147 k9 (by omega)).trans ((ho137 k9 (by omega)).trans (ho126 k9 (by omega))))))) (fun q hq => Or.inl (fun k9 q1 q2 => by rcases Nat.lt_trichotomy q (ρ2 (peR (pe V n c9))) with w3 | w3 | w3 <;> exact ((ho162 k9 (by omega)).trans ((ho147 k9 (by omega)).trans ((ho137 k9 (by omega)).trans (ho126 k9 (by omega)))))))) (((ho162 35 (by omega)).trans ((ho147 35 (by omega)).trans ((ho137 35 (by omega)).trans (ho126 35 (by omega))))).trans hp3) (fun j9 h => by rw [hPR2, eP']; by_cases w : j9 = c9; (rw [w, zu_s, zu_s]); (rw [zu_n _ _ w, zu_n _ _ w]; exact hPR j9 (by omega))) (fun i9 h => (hRn147 i9 h).keep hn (fun k9 q1 q2 => ho162 k9 (by omega))) (by rw [eR', eL']; exact (htop.2.1 c9 (Nat.le_refl _) (by omega)).keep (fun k9 q1 q2 => ((ho162 k9 (by omega)).trans ((ho147 k9 (by omega)).trans ((ho137 k9 (by omega)).trans (ho126 k9 (by omega))))))) (by rw [eR', eL']; exact Int.lt_of_lt_of_le (peV_E43 hT hn hVc hRn (by omega)) (bg_p_le (by decide))) (pLp_new hNP hq2 (by omega)) (by rw [eH']; have h156 := hz156.2; omega) (fun i9 h => ((ho162 i9 (by omega)).trans ((ho147 i9 (by omega)).trans ((ho137 i9 (by omega)).trans (ho126 i9 (by omega))))).trans (ho3 i9 h)) hP hD hS (lv_sub hl [0, 3, 4] rfl)
                  · exfalso; omega
                | succ t ih =>
                  intro k G3 H locs ls hkt he3 hs3 hw3 hb3 hp3 hR3 hL3 ho3 hP hD hS hl
                  have ih3 := ih
                  refine lv_iload hx hb dX2_run_71 (lv_at hl 0 rfl) ?_
                  refine lv_aload_n hx hb dX2_run_73 rfl (lv_at hl 3 rfl) ?_
                  refine va_get (D := D) (ci := 2) (v := .int (iZ (((n : Nat) : Int)))) (C := RX2) (T := TX2) (N := 17) hx hb hts hin2 hown hK hP (5) (pw_at (by omega) (he3)) rfl 12 (by decide) q_f_RX2_85_Elimination_n_I (fun _ h9 => h9) rfl dX2_run_74 ?_
                  refine zr_icmp_ge hx hb 123 ⟨by omega, by omega⟩ ⟨by omega, by omega⟩ dX2_run_77 (by decide) (fun h_77 => ?_) (fun h_77 => ?_)
                  · exfalso; omega
                  · refine lv_iload hx hb dX2_run_80 (lv_at hl 0 rfl) ?_
                    refine lv_aload_n hx hb dX2_run_82 rfl (lv_at hl 3 rfl) ?_
                    refine va_get (D := D) (ci := 2) (v := .int (iZ ((((peR (pe V n c9)) : Nat) : Int)))) (C := RX2) (T := TX2) (N := 17) hx hb hts hin2 hown hK hP (5) (pw_at (by omega) (he3)) rfl 14 (by decide) q_f_RX2_91_Elimination_pivots_I (fun _ h9 => h9) rfl dX2_run_83 ?_
                    refine zr_icmp_eq hx hb 117 ⟨by omega, by omega⟩ ⟨by omega, by omega⟩ dX2_run_86 (by decide) (fun h_86 => ?_) (fun h_86 => ?_)
                    · refine lv_iinc (v := iZ (((k + 1 : Nat) : Int))) (lv' := [(5, .int (iZ (((k + 1 : Nat) : Int)))), (4, .ref (ad (37 + 66 * ρ2 (peR (pe V n c9))))), (2, .int (iZ (((c9 : Nat) : Int)))), (0, .ref (ad 5)), (1, .ref (ad 2))]) hx hb dX2_run_117 hl (k := 0) rfl (by rw [show ((k + 1 : Nat) : Int) = ((k : Nat) : Int) + 1 by omega]; exact iZ_add _ _) (by decide) rfl (fun ls hl => ?_)
                      refine lv_goto (tgt := 71) hx hb dX2_run_120 (by decide) ?_
                      exact ih3 (k + 1) G3 H locs ls (by omega) he3 hs3 hw3 hb3 hp3 (fun i9 h => ⟨fun h2 => (hR3 i9 h).1 (by omega), fun h2 => (hR3 i9 h).2 (by omega)⟩) hL3 ho3 hP hD hS (lv_sub hl [0, 1, 2, 3, 4] rfl)
                    · have hkr : k ≠ (peR (pe V n c9)) := by omega
                      have hkn : k < n := by omega
                      have hq1 := hs3.2.2.2.2.1 k (by omega)
                      have hq2 := hs3.2.2.2.2.1 (peR (pe V n c9)) (by omega)
                      have hne := hs3.2.2.2.2.2 k (peR (pe V n c9)) (by omega) (by omega) hkr
                      have hko := (hR3 k hkn).2 (fun w => Nat.lt_irrefl k w.1)
                      have htop := (hR3 (peR (pe V n c9)) hrn).2 (fun w => w.2 rfl)
                      rw [pe_sg_t] at htop
                      have hsk := pe_sg_lt (k := k) hRn hrn hkn
                      have hlp := peV_L43 hn hVc
                      have hm9 := fun j (hj : j ≤ n) => hM9 k j hkn hkr hj
                      have hLa := hL9.1
                      have hLc := hL9.2.2.1
                      have hLd := hL9.2.2.2.1
                      refine lv_aload_n hx hb dX2_run_89 rfl (lv_at hl 3 rfl) ?_
                      refine lv_aload_n hx hb dX2_run_90 rfl (lv_at hl 3 rfl) ?_
                      refine va_get (D := D) (ci := 2) (v := .ref (ad 33)) (C := RX2) (T := TX2) (N := 17) hx hb hts hin2 hown hK hP (5) (pw_at (by omega) (he3)) rfl 1 (by decide) q_f_RX2_20_Elimination_rows_LRow (fun _ h9 => h9) rfl dX2_run_91 ?_
                      refine lv_iload hx hb dX2_run_94 (lv_at hl 0 rfl) ?_
                      refine zr_aald hx hb hK hP (33) 4 (pw_at (by omega) (hs3.1)) rfl (k) (by omega) (by omega) (by omega) (v := ad (37 + 66 * ρ2 k)) (rfl) dX2_run_96 ?_
                      refine lv_aload hx hb dX2_run_97 (lv_at hl 1 rfl) ?_
                      refine lv_iload_n hx hb dX2_run_99 rfl (lv_at hl 2 rfl) ?_
                      refine zc_Vv (As := [.ref (ad (37 + 66 * ρ2 k)), .ref (ad (37 + 66 * ρ2 (peR (pe V n c9)))), .int (iZ (((c9 : Nat) : Int)))]) (rest := []) (wr := []) ⟨hx, hb, hml, hown, hts⟩ (p_combineRow l D cI cJ cE cF cR NP ad G3 (ρ2 k) (ρ2 (peR (pe V n c9))) c9 rl (if k < (peR (pe V n c9)) then ((peC (pe V n c9) k : Nat) : Int) else -1) (if (peR (pe V n c9)) < (peR (pe V n c9)) then ((peC (pe V n c9) (peR (pe V n c9)) : Nat) : Int) else -1) (peL (pe V n c9) (peR (pe V n c9))) (peE (pe V n c9) (pe_sg (pe_row (pe V n c9) n c9) (peR (pe V n c9)) k)) (peE (pe V n c9) (pe_row (pe V n c9) n c9)) (peE (pe V n (c9 + 1)) k) L9 n (peT (pe V n (c9 + 1))) (((peR (pe V n c9)) : Nat) : Int) ((peH (pe V n c9) : Nat) : Int) sv he3 hko.1 htop.1 (hs3.2.2.2.1 _ hq1).1 (hs3.2.2.2.1 _ hq2).1 hw3.1 hw3.2.1 hw3.2.2.1 (fun j9 h1 h2 => hko.2.1 j9 h1 h2) (fun j9 h1 h2 => htop.2.1 j9 h1 h2) hL3 (fun j9 h1 h2 => hL9.2.2.2.2.1 (ρ2 k) j9 hq1 (by omega) (by omega)) ⟨by have := hL9.1; omega, hL9.2.1, by omega⟩ hlp.2 hLb (by omega) (fun j9 h1 h2 => hdv k j9 hkn hkr h2) (fun j9 h1 h2 => ⟨peV_E43 hT hn hVc hsk h2, peV_E43 hT hn hVc hRn h2⟩) (fun j9 h1 h2 => peV_E43 hT hn hVs hkn h2) hq1 hq2 hne hn (by omega) hNP) (cwV 3 hts gX2_run_X2_combineRow rfl rfl rfl (by decide +kernel) ⟨Nat.le_of_ble_eq_true rfl, Nat.le_of_ble_eq_true rfl⟩) hN hK hP hD hS hA (List.range NP) [] (pw_all _ _ _) rfl (pw_nd _) rfl (fun _ h9 => nomatch h9) (q0 := 5) (ci := 2) rfl rfl (pw_at (by omega) (he3)) rfl hl.1 (Nat.le_of_ble_eq_true rfl) dX2_run_100 ⟨by decide, by decide⟩ (fun w1 H locs hp hP hD hS => ?_)
                      obtain ⟨G4, rfl, hA4, hpl4, hmi4, he4, ho4⟩ := hp
                      have hP : va_P D vwCl (pw NP ad G4) H := hP
                      have hD : va_D A (pw NP ad G4) := hD
                      have k100_0 : G4 (5) = .inr (2, [.ref (ad 6), .ref (ad 33), .ref (ad 34), .ref (ad 35), .ref (ad 454), .ref (ad 459), .ref (ad 464), .ref (ad 466), .ref (ad 468), .ref (ad 470), .ref (ad 36), .ref (ad L9), .int (iZ (((n : Nat) : Int))), .int (iZ (peT (pe V n (c9 + 1)))), .int (iZ ((((peR (pe V n c9)) : Nat) : Int))), .int (iZ (((peH (pe V n c9) : Nat) : Int))), .int (iZ (sv))]) := (ho4 (5) (by omega) (by omega) (fun j9 _ _ => by omega)).trans (he3)
                      have k100_1 : G4 (33) = aR cR (6) (fun i => some (ad (37 + 66 * ρ2 i))) := (ho4 (33) (by omega) (by omega) (fun j9 _ _ => by omega)).trans (hs3.1)
                      have hcv : k < (peR (pe V n c9)) → peC (pe V n c9) k < c9 := fun w => hVc.1.2.2.2.2.2.1 _ (hVc.2.2.1 k w).1
                      have hpcr : iR (if k < (peR (pe V n c9)) then ((peC (pe V n c9) k : Nat) : Int) else -1) := by by_cases w : k < (peR (pe V n c9)); (rw [if_pos w]; have := hcv w; exact ⟨by omega, by omega⟩); (rw [if_neg w]; decide)
                      have hpcc : (if k < (peR (pe V n c9)) then ((peC (pe V n c9) k : Nat) : Int) else -1) < ((c9 : Nat) : Int) := by by_cases w : k < (peR (pe V n c9)); (rw [if_pos w]; have := hcv w; omega); (rw [if_neg w]; omega)
                      have hh2 : ∀ j9 : Nat, j9 ≤ n → k < (peR (pe V n c9)) → peM (pe V n (c9 + 1)) k j9 = (peE (pe V n (c9 + 1)) k j9 : Rat) / (peE (pe V n c9) (pe_row (pe V n c9) n c9) c9 : Rat) * peM (pe V n c9) (pe_sg (pe_row (pe V n c9) n c9) (peR (pe V n c9)) k) ((if k < (peR (pe V n c9)) then ((peC (pe V n c9) k : Nat) : Int) else -1)).toNat := fun j9 h2 w => by rw [(hm9 j9 h2).2.2.2 w, if_pos w, Int.toNat_natCast, pe_sg_o (k := k) (by omega) hkr]
                      have hMp9 : k < (peR (pe V n c9)) → ((peM (pe V n c9) (pe_sg (pe_row (pe V n c9) n c9) (peR (pe V n c9)) k) ((if k < (peR (pe V n c9)) then ((peC (pe V n c9) k : Nat) : Int) else -1)).toNat).num.natAbs : Int) < bg_p 36 ∧ ((peM (pe V n c9) (pe_sg (pe_row (pe V n c9) n c9) (peR (pe V n c9)) k) ((if k < (peR (pe V n c9)) then ((peC (pe V n c9) k : Nat) : Int) else -1)).toNat).den : Int) < bg_p 36 := fun w => by rw [if_pos w, Int.toNat_natCast, pe_sg_o (k := k) (by omega) hkr]; exact peV_p36 hT hn hVc w (by omega)
                      refine lv_aload_n hx hb dX2_run_103 rfl (lv_at hl 3 rfl) ?_
                      refine lv_aload_n hx hb dX2_run_104 rfl (lv_at hl 3 rfl) ?_
                      refine va_get (D := D) (ci := 2) (v := .ref (ad 33)) (C := RX2) (T := TX2) (N := 17) hx hb hts hin2 hown hK hP (5) (pw_at (by omega) (k100_0)) rfl 1 (by decide) q_f_RX2_20_Elimination_rows_LRow (fun _ h9 => h9) rfl dX2_run_105 ?_
                      refine lv_iload hx hb dX2_run_108 (lv_at hl 0 rfl) ?_
                      refine zr_aald hx hb hK hP (33) 4 (pw_at (by omega) (k100_1)) rfl (k) (by omega) (by omega) (by omega) (v := ad (37 + 66 * ρ2 k)) (rfl) dX2_run_110 ?_
                      refine lv_aload hx hb dX2_run_111 (lv_at hl 1 rfl) ?_
                      refine lv_iload_n hx hb dX2_run_113 rfl (lv_at hl 2 rfl) ?_
                      refine zc_Vv (As := [.ref (ad (37 + 66 * ρ2 k)), .ref (ad (37 + 66 * ρ2 (peR (pe V n c9)))), .int (iZ (((c9 : Nat) : Int)))]) (rest := []) (wr := []) ⟨hx, hb, hml, hown, hts⟩ (p_refreshCells l D cI cJ cE cF cR NP ad G4 (ρ2 k) (ρ2 (peR (pe V n c9))) c9 (if k < (peR (pe V n c9)) then ((peC (pe V n c9) k : Nat) : Int) else -1) (if (peR (pe V n c9)) < (peR (pe V n c9)) then ((peC (pe V n c9) (peR (pe V n c9)) : Nat) : Int) else -1) (peE (pe V n c9) (pe_sg (pe_row (pe V n c9) n c9) (peR (pe V n c9)) k) c9) ((pe_sc V (peI (pe V n (c9 + 1)) k) (n + 1) : Nat) : Int) (peE (pe V n c9) (pe_row (pe V n c9) n c9)) (peE (pe V n (c9 + 1)) k) (peM (pe V n c9) (pe_sg (pe_row (pe V n c9) n c9) (peR (pe V n c9)) k)) (peM (pe V n (c9 + 1)) k) L9 n (peT (pe V n (c9 + 1))) (((peR (pe V n c9)) : Nat) : Int) ((peH (pe V n c9) : Nat) : Int) sv ((ho4 (5) (by omega) (by omega) (fun j9 _ _ => by omega)).trans he3) ((ho4 (37 + 66 * ρ2 k) (by omega) (by omega) (fun j9 _ _ => by omega)).trans hko.1) ((ho4 (37 + 66 * ρ2 (peR (pe V n c9))) (by omega) (by omega) (fun j9 _ _ => by omega)).trans htop.1) ((ho4 (38 + 66 * ρ2 k) (by omega) (by omega) (fun j9 _ _ => by omega)).trans (hs3.2.2.2.1 _ hq1).1) ((ho4 (38 + 66 * ρ2 (peR (pe V n c9))) (by omega) (by omega) (fun j9 _ _ => by omega)).trans (hs3.2.2.2.1 _ hq2).1) ((ho4 (39 + 66 * ρ2 k) (by omega) (by omega) (fun j9 _ _ => by omega)).trans (hs3.2.2.2.1 _ hq1).2) hA4 (hw3.2.2.2.1.keep (ho4 (_) (by omega) (by omega) (fun j9 _ _ => by omega)) (ho4 (_) (by omega) (by omega) (fun j9 _ _ => by omega))) (hw3.2.2.2.2.1.keep (fun k9 q1 q2 => ho4 (k9) (by omega) (by omega) (fun j9 _ _ => by omega))) (hko.2.2.2.keep (ho4 (_) (by omega) (by omega) (fun j9 _ _ => by omega)) (ho4 (_) (by omega) (by omega) (fun j9 _ _ => by omega))) ((hko.2.1 c9 (Nat.le_refl _) (by omega)).keep (fun k9 q1 q2 => ho4 (k9) (by omega) (by omega) (fun j9 _ _ => by omega))) he4 (fun j9 h1 h2 => (htop.2.1 j9 h1 h2).keep (fun k9 q1 q2 => ho4 (k9) (by omega) (by omega) (fun j9 _ _ => by omega))) (fun j9 h1 => (hko.2.2.1 j9 h1).keep (fun k9 q1 q2 => ho4 (k9) (by omega) (by omega) (fun j9 _ _ => by omega))) (fun h j9 hj => (hm9 j9 hj).1 (Or.inl h)) (fun _ j9 hj => (hm9 j9 (by omega)).1 (Or.inr (Or.inr hj))) (fun _ => (hm9 c9 (by omega)).2.1 rfl) (fun _ j9 h1 h2 h3 => (hm9 j9 h2).1 (Or.inr (Or.inl h3))) (fun _ hpc j9 h1 h2 h3 => (hm9 j9 h2).2.2.1 (pcf_n hpc hkr)) (fun _ hpc j9 h1 h2 h3 => hh2 j9 h2 (pcf_p hpc)) hpcr hpcc (fun hpc => hMp9 (pcf_p hpc)) hp0 (peV_E43 hT hn hVc hRn (by omega)) (pe_sc_b hT (hVs.2.2.2.2.2.2.1 k hkn) hn (Nat.le_refl _)).2 (pe_sc_b hT (hVs.2.2.2.2.2.2.1 k hkn) hn (Nat.le_refl _)).1 (fun j9 h1 h2 => peV_E43 hT hn hVs hkn h2) hq1 hq2 hne hn (by omega) hNP) (cwV 3 hts gX2_run_X2_refreshCells rfl rfl rfl (by decide +kernel) ⟨Nat.le_of_ble_eq_true rfl, Nat.le_of_ble_eq_true rfl⟩) hN hK hP hD hS hA (List.range NP) [] (pw_all _ _ _) rfl (pw_nd _) rfl (fun _ h9 => nomatch h9) (q0 := 5) (ci := 2) rfl rfl (pw_at (by omega) (k100_0)) rfl hl.1 (Nat.le_of_ble_eq_true rfl) dX2_run_114 ⟨by decide, by decide⟩ (fun w1 H locs hp hP hD hS => ?_)
                      obtain ⟨G5, rfl, hA5, hbo5, hra5, heh5, hC5, ho5⟩ := hp
                      have hP : va_P D vwCl (pw NP ad G5) H := hP
                      have hD : va_D A (pw NP ad G5) := hD
                      refine lv_iinc (v := iZ (((k + 1 : Nat) : Int))) (lv' := [(5, .int (iZ (((k + 1 : Nat) : Int)))), (4, .ref (ad (37 + 66 * ρ2 (peR (pe V n c9))))), (2, .int (iZ (((c9 : Nat) : Int)))), (0, .ref (ad 5)), (1, .ref (ad 2))]) hx hb dX2_run_117 hl (k := 0) rfl (by rw [show ((k + 1 : Nat) : Int) = ((k : Nat) : Int) + 1 by omega]; exact iZ_add _ _) (by decide) rfl (fun ls hl => ?_)
                      refine lv_goto (tgt := 71) hx hb dX2_run_120 (by decide) ?_
                      exact ih3 (k + 1) G5 H locs ls (by omega) (((ho5 (5) (by omega) (by omega) (by omega) (by omega) (fun j9 _ _ => by omega)).trans (ho4 (5) (by omega) (by omega) (fun j9 _ _ => by omega))).trans he3) (hs3.keep ((ho5 (33) (by omega) (by omega) (by omega) (by omega) (fun j9 _ _ => by omega)).trans (ho4 (33) (by omega) (by omega) (fun j9 _ _ => by omega))) ((ho5 (34) (by omega) (by omega) (by omega) (by omega) (fun j9 _ _ => by omega)).trans (ho4 (34) (by omega) (by omega) (fun j9 _ _ => by omega))) ((ho5 (36) (by omega) (by omega) (by omega) (by omega) (fun j9 _ _ => by omega)).trans (ho4 (36) (by omega) (by omega) (fun j9 _ _ => by omega))) (fun r9 h => by rcases Nat.lt_trichotomy r9 (ρ2 k) with w3 | w3 | w3 <;> exact ⟨(ho5 (38 + 66 * r9) (by omega) (by omega) (by omega) (by omega) (fun j9 _ _ => by omega)).trans (ho4 (38 + 66 * r9) (by omega) (by omega) (fun j9 _ _ => by omega)), (ho5 (39 + 66 * r9) (by omega) (by omega) (by omega) (by omega) (fun j9 _ _ => by omega)).trans (ho4 (39 + 66 * r9) (by omega) (by omega) (fun j9 _ _ => by omega))⟩)) ⟨hA5, hpl4.keep (ho5 (_) (by omega) (by omega) (by omega) (by omega) (fun j9 _ _ => by omega)) (ho5 (_) (by omega) (by omega) (by omega) (by omega) (fun j9 _ _ => by omega)), hmi4.keep (ho5 (_) (by omega) (by omega) (by omega) (by omega) (fun j9 _ _ => by omega)) (ho5 (_) (by omega) (by omega) (by omega) (by omega) (fun j9 _ _ => by omega)), hbo5, hra5, hw3.2.2.2.2.2.1.keep (fun k9 q1 q2 => (ho5 (k9) (by omega) (by omega) (by omega) (by omega) (fun j9 _ _ => by omega)).trans (ho4 (k9) (by omega) (by omega) (fun j9 _ _ => by omega))), hw3.2.2.2.2.2.2.1.keep (fun k9 q1 q2 => (ho5 (k9) (by omega) (by omega) (by omega) (by omega) (fun j9 _ _ => by omega)).trans (ho4 (k9) (by omega) (by omega) (fun j9 _ _ => by omega))), fun j hj => (hw3.2.2.2.2.2.2.2 j hj).keep (fun k9 q1 q2 => (ho5 (k9) (by omega) (by omega) (by omega) (by omega) (fun j9 _ _ => by omega)).trans (ho4 (k9) (by omega) (by omega) (fun j9 _ _ => by omega)))⟩ ((hb3.upd (G' := G4) (fun q hq => by rcases Nat.lt_trichotomy q (ρ2 k) with w3 | w3 | w3 <;> exact Or.inl (ho4 (37 + 66 * q) (by omega) (by omega) (fun j9 _ _ => by omega))) (fun q j hq hj => by by_cases w : q = ρ2 k ∧ c9 < j ∧ j ≤ n; (rw [w.1]; exact Or.inr (he4 j w.2.1 w.2.2).has); rcases Nat.lt_trichotomy q (ρ2 k) with w3 | w3 | w3 <;> exact Or.inl (fun i9 q1 q2 => ho4 (i9) (by omega) (by omega) (fun j9 _ _ => by omega))) (fun q j hq hj => by rcases Nat.lt_trichotomy q (ρ2 k) with w3 | w3 | w3 <;> exact Or.inl (fun i9 q1 q2 => ho4 (i9) (by omega) (by omega) (fun j9 _ _ => by omega))) (fun q hq => by rcases Nat.lt_trichotomy q (ρ2 k) with w3 | w3 | w3 <;> exact Or.inl (fun i9 q1 q2 => ho4 (i9) (by omega) (by omega) (fun j9 _ _ => by omega))) (fun q hq => by rcases Nat.lt_trichotomy q (ρ2 k) with w3 | w3 | w3 <;> exact Or.inl (fun i9 q1 q2 => ho4 (i9) (by omega) (by omega) (fun j9 _ _ => by omega)))).upd (fun q hq => by rcases Nat.lt_trichotomy q (ρ2 k) with w3 | w3 | w3 <;> exact Or.inl (ho5 (37 + 66 * q) (by omega) (by omega) (by omega) (by omega) (fun j9 _ _ => by omega))) (fun q j hq hj => by by_cases w : q = ρ2 k ∧ j = c9; (rw [w.1, w.2]; exact Or.inr heh5); rcases Nat.lt_trichotomy q (ρ2 k) with w3 | w3 | w3 <;> exact Or.inl (fun i9 q1 q2 => ho5 (i9) (by omega) (by omega) (by omega) (by omega) (fun j9 _ _ => by omega))) (fun q j hq hj => by by_cases w : q = ρ2 k ∧ j ≤ n; (rw [w.1]; exact Or.inr (hC5 j w.2).has); rcases Nat.lt_trichotomy q (ρ2 k) with w3 | w3 | w3 <;> exact Or.inl (fun i9 q1 q2 => ho5 (i9) (by omega) (by omega) (by omega) (by omega) (fun j9 _ _ => by omega))) (fun q hq => by rcases Nat.lt_trichotomy q (ρ2 k) with w3 | w3 | w3 <;> exact Or.inl (fun i9 q1 q2 => ho5 (i9) (by omega) (by omega) (by omega) (by omega) (fun j9 _ _ => by omega))) (fun q hq => by rcases Nat.lt_trichotomy q (ρ2 k) with w3 | w3 | w3 <;> exact Or.inl (fun i9 q1 q2 => ho5 (i9) (by omega) (by omega) (by omega) (by omega) (fun j9 _ _ => by omega)))) (((ho5 (35) (by omega) (by omega) (by omega) (by omega) (fun j9 _ _ => by omega)).trans (ho4 (35) (by omega) (by omega) (fun j9 _ _ => by omega))).trans hp3) (fun i9 h => by by_cases w : i9 = k; (rw [w]; exact ⟨fun _ => ⟨((ho5 (37 + 66 * ρ2 k) (by omega) (by omega) (by omega) (by omega) (fun j9 _ _ => by omega)).trans (ho4 (37 + 66 * ρ2 k) (by omega) (by omega) (fun j9 _ _ => by omega))).trans hko.1, (fun j9 h1 h2 => (he4 j9 (by omega) h2).keep (fun k9 q1 q2 => ho5 (k9) (by omega) (by omega) (by omega) (by omega) (fun j9 _ _ => by omega))), (fun j9 h1 => hC5 j9 h1), hko.2.2.2.keep ((ho5 (_) (by omega) (by omega) (by omega) (by omega) (fun j9 _ _ => by omega)).trans (ho4 (_) (by omega) (by omega) (fun j9 _ _ => by omega))) ((ho5 (_) (by omega) (by omega) (by omega) (by omega) (fun j9 _ _ => by omega)).trans (ho4 (_) (by omega) (by omega) (fun j9 _ _ => by omega)))⟩, fun h2 => absurd ⟨by omega, hkr⟩ h2⟩); (have hq9 := hs3.2.2.2.2.1 i9 (by omega)); (have hn9 := hs3.2.2.2.2.2 i9 k (by omega) (by omega) w); (have hkeep : ∀ k9 : Nat, 37 + 66 * ρ2 i9 ≤ k9 → k9 ≤ 97 + 66 * ρ2 i9 → G5 k9 = G3 k9 := fun k9 q1 q2 => by rcases Nat.lt_or_gt_of_ne hn9 with w3 | w3 <;> exact (ho5 (k9) (by omega) (by omega) (by omega) (by omega) (fun j9 _ _ => by omega)).trans (ho4 (k9) (by omega) (by omega) (fun j9 _ _ => by omega))); exact ⟨fun h2 => ((hR3 i9 h).1 (by omega)).keep hn hkeep, fun h2 => ((hR3 i9 h).2 (by omega)).keep hn hkeep⟩) (hL3.keep (fun k9 q1 q2 => (ho5 k9 (by omega) (by omega) (by omega) (by have := hL9.2.2.2.2.1 (ρ2 k) c9 hq1 (Nat.le_refl _) (by omega); omega) (fun j9 _ _ => by have := hL9.2.2.2.2.2.1 (ρ2 k) j9 hq1 (by omega); omega)).trans (ho4 k9 (by omega) (by omega) (fun j9 _ _ => by have := hL9.2.2.2.2.1 (ρ2 k) j9 hq1 (by omega) (by omega); omega)))) (fun i9 h => ((ho5 (i9) (by omega) (by omega) (by omega) (by omega) (fun j9 _ _ => by omega)).trans (ho4 (i9) (by omega) (by omega) (fun j9 _ _ => by omega))).trans (ho3 i9 h)) hP hD hS (lv_sub hl [0, 1, 2, 3, 4] rfl)
              exact klp n 0 G2 H locs ls (by omega) hel2 hst2 (hwk.keep (fun k9 h => hall k9 (by omega) (by omega) (by omega))) (hHb.keep (fun k9 q1 q2 => hall k9 (by omega) (by omega) (by omega))) ((ho2 35 (by omega) (by omega)).trans (by rw [hPR2]; exact he39)) (fun i9 h => ⟨fun w => absurd w.1 (Nat.not_lt_zero i9), fun _ => by have h9 := (hRw (pe_sg (pe_row (pe V n c9) n c9) (peR (pe V n c9)) i9) (pe_sg_lt hRn hrn h)).keep (G' := G2) hn (fun k9 q1 q2 => hall k9 (by omega) (by omega) (by omega)); rw [hρ2]; rw [eI', pe_pi_sg]; rw [pcf_sg (peC (pe V n c9)) hrR]; exact h9⟩) (hL.keep (fun k9 q1 q2 => hall k9 (by have := hL9.1; omega) (by have := hL9.1; have := hL9.2.2.2.1; omega) (by have := hL9.1; omega))) (fun i9 h => (hall i9 (by omega) (by omega) (by omega)).trans (hof i9 h)) hP hD hS (lv_sub hl [0, 1, 3, 4, 5] rfl)
            · exfalso; omega
          · exfalso; omega
      · have hno := hyes
        have en := pe_n hno
        have eM : peM (pe V n (c9 + 1)) = peM (pe V n c9) := by rw [en]; rfl
        have eR : peR (pe V n (c9 + 1)) = peR (pe V n c9) := by rw [en]; rfl
        have eT : peT (pe V n (c9 + 1)) = peT (pe V n c9) := by rw [en]; rfl
        have eH : peH (pe V n (c9 + 1)) = peH (pe V n c9) := by rw [en]; rfl
        have eE : peE (pe V n (c9 + 1)) = peE (pe V n c9) := by rw [en]; rfl
        have eI : peI (pe V n (c9 + 1)) = peI (pe V n c9) := by rw [en]; rfl
        have eL : peL (pe V n (c9 + 1)) = peL (pe V n c9) := by rw [en]; rfl
        have eC : peC (pe V n (c9 + 1)) = peC (pe V n c9) := by rw [en]; rfl
        have eP : peP (pe V n (c9 + 1)) = zu (peP (pe V n c9)) c9 (-1) := by rw [en]; rfl
        refine lv_iload_n hx hb dX2_run_7 rfl (lv_at hl 0 rfl) ?_
        refine lv_aload_n hx hb dX2_run_8 rfl (lv_at hl 1 rfl) ?_
        refine va_get (D := D) (ci := 2) (v := .int (iZ (((n : Nat) : Int)))) (C := RX2) (T := TX2) (N := 17) hx hb hts hin2 hown hK hP (5) (pw_at (by omega) (hel1)) rfl 12 (by decide) q_f_RX2_85_Elimination_n_I (fun _ h9 => h9) rfl dX2_run_9 ?_
        refine zr_icmp_ge hx hb 171 ⟨by omega, by omega⟩ ⟨by omega, by omega⟩ dX2_run_12 (by decide) (fun h_12 => ?_) (fun h_12 => ?_)
        · exfalso; omega
        · refine lv_aload_n hx hb dX2_run_15 rfl (lv_at hl 1 rfl) ?_
          refine lv_iload_n hx hb dX2_run_16 rfl (lv_at hl 0 rfl) ?_
          refine zc_Vi (As := [.int (iZ (((c9 : Nat) : Int)))]) (rest := []) (wr := []) ⟨hx, hb, hml, hown, hts⟩ (p_firstRowWith l D cI cJ cE cF cR NP ad G1 c9 (peE (pe V n c9)) L9 n (peR (pe V n c9)) (peT (pe V n c9)) ((peH (pe V n c9) : Nat) : Int) sv hel1 ρ (fun i9 => (if i9 < peR (pe V n c9) then ((peC (pe V n c9) i9 : Nat) : Int) else -1)) hst1 (fun i9 h => (hRw i9 h).1) (fun i9 h1 h2 => (hRw i9 h2).2.1 c9 (Nat.le_refl _) (by omega)) hn hVc.1.2.1 (by omega) hNP) (cwV 1 hts gX2_run_X2_firstRowWith rfl rfl rfl (by decide +kernel) ⟨Nat.le_of_ble_eq_true rfl, Nat.le_of_ble_eq_true rfl⟩) hN hK hP hD hS hA (List.range NP) [] (pw_all _ _ _) rfl (pw_nd _) rfl (fun _ h9 => nomatch h9) (q0 := 5) (ci := 2) rfl rfl (pw_at (by omega) (hel1)) rfl hl.1 (Nat.le_of_ble_eq_true rfl) dX2_run_17 ⟨by decide, by decide⟩ (fun rf w1 H locs hz17 hp hP hD hS => ?_)
          obtain ⟨G9, rfl, hrf, ho9⟩ := hp
          obtain rfl : G1 = G9 := (funext ho9).symm
          rw [peV_row hVc (by omega)] at hrf
          obtain rfl : rf = (-1) := by rcases hrf with ⟨q, _⟩ | ⟨_, q⟩; exact absurd q hno; exact q
          have hP : va_P D vwCl (pw NP ad G1) H := hP
          have hD : va_D A (pw NP ad G1) := hD
          refine lv_istore_n (lv' := [(3, .int (iZ ((-1)))), (2, .int (iZ (((c9 : Nat) : Int)))), (0, .ref (ad 5)), (1, .ref (ad 2))]) hx hb dX2_run_20 rfl hl (by decide) rfl (fun ls hl => ?_)
          refine lv_aload_n hx hb dX2_run_21 rfl (lv_at hl 2 rfl) ?_
          refine va_get (D := D) (ci := 2) (v := .ref (ad 35)) (C := RX2) (T := TX2) (N := 17) hx hb hts hin2 hown hK hP (5) (pw_at (by omega) (hel1)) rfl 3 (by decide) q_f_RX2_30_Elimination_pivotRows_I (fun _ h9 => h9) rfl dX2_run_22 ?_
          refine lv_iload_n hx hb dX2_run_25 rfl (lv_at hl 1 rfl) ?_
          refine lv_iload_n hx hb dX2_run_26 rfl (lv_at hl 0 rfl) ?_
          refine lv_iconst (v := iZ (-1)) hx hb dX2_run_27 rfl ?_
          refine zr_icmp_ne hx hb 35 (by decide) (by decide) dX2_run_28 (by decide) (fun h_28 => ?_) (fun h_28 => ?_)
          · exfalso; omega
          · refine lv_iconst (v := iZ (-1)) hx hb dX2_run_31 rfl ?_
            refine lv_goto (tgt := 39) hx hb dX2_run_32 (by decide) ?_
            refine zr_iast hx hb hK hP hD hS (35) 0 (pw_at (by omega) (hpr)) rfl (c9) (by omega) (by omega) (by omega) dX2_run_39 (fun H locs hP hD hS => ?_)
            rw [pw_set] at hP hD
            obtain ⟨G_39, hg39⟩ : ∃ g : Nat → va_E, g = zu G1 (35) (aI cI (6) (zu (PR) (c9) ((-1)))) := ⟨_, rfl⟩
            have hP : va_P D vwCl (pw NP ad G_39) H := by rw [hg39]; exact hP
            have hD : va_D A (pw NP ad G_39) := by rw [hg39]; exact hD
            have ho39 : ∀ k : Nat, k ≠ 35 → G_39 k = G1 k := fun k hk => by rw [hg39]; exact zu_n _ _ hk
            have he39 : G_39 (35) = aI cI (6) (zu (PR) (c9) ((-1))) := by rw [hg39]; exact zu_s _ _ _
            have k39_0 : G_39 (5) = .inr (2, [.ref (ad 6), .ref (ad 33), .ref (ad 34), .ref (ad 35), .ref (ad 454), .ref (ad 459), .ref (ad 464), .ref (ad 466), .ref (ad 468), .ref (ad 470), .ref (ad 36), .ref (ad L9), .int (iZ (((n : Nat) : Int))), .int (iZ (peT (pe V n c9))), .int (iZ (((peR (pe V n c9) : Nat) : Int))), .int (iZ (((peH (pe V n c9) : Nat) : Int))), .int (iZ (sv))]) := (ho39 (5) (by omega)).trans (hel1)
            have k39_2 : G_39 (33) = aR cR (6) (fun i => some (ad (37 + 66 * ρ i))) := (ho39 (33) (by omega)).trans (hst1.1)
            refine lv_iload_n hx hb dX2_run_40 rfl (lv_at hl 0 rfl) ?_
            refine lv_iconst (v := iZ (-1)) hx hb dX2_run_41 rfl ?_
            refine zr_icmp_ne hx hb 48 (by decide) (by decide) dX2_run_42 (by decide) (fun h_42 => ?_) (fun h_42 => ?_)
            · exfalso; omega
            · refine lv_goto (tgt := 165) hx hb dX2_run_45 (by decide) ?_
              refine lv_iinc (v := iZ (((c9 + 1 : Nat) : Int))) (lv' := [(2, .int (iZ (((c9 + 1 : Nat) : Int)))), (3, .int (iZ ((-1)))), (0, .ref (ad 5)), (1, .ref (ad 2))]) hx hb dX2_run_165 hl (k := 1) rfl (by rw [show ((c9 + 1 : Nat) : Int) = ((c9 : Nat) : Int) + 1 by omega]; exact iZ_add _ _) (by decide) rfl (fun ls hl => ?_)
              refine lv_goto (tgt := 7) hx hb dX2_run_168 (by decide) ?_
              exact ih (c9 + 1) G_39 ρ _ L9 rl H locs ls (by omega) (by rw [eT, eR, eH]; exact k39_0) (hst1.keep (ho39 _ (by omega)) (ho39 _ (by omega)) (ho39 _ (by omega)) (fun r9 h => ⟨ho39 _ (by omega), ho39 _ (by omega)⟩)) (hwk.keep (fun i9 h => ho39 i9 (by omega))) (hHb.keep (fun i9 q1 q2 => ho39 i9 (by omega))) he39 (fun j9 h => by rw [eP]; by_cases w : j9 = c9; (rw [w, zu_s, zu_s]); (rw [zu_n _ _ w, zu_n _ _ w]; exact hPR j9 (by omega))) (fun i9 h => by rw [eE, eM, eI, eR, eC]; exact ((hRw i9 h).mono (by omega)).keep hn (fun k q1 q2 => ho39 k (by omega))) (by rw [eL, eR]; exact hL.keep (fun k q1 q2 => ho39 k (by have := hL9.1; have := hL9.2.2.2.1; omega))) (by rw [eL, eR]; exact hLb) (hL9.mono (by omega)) (by rw [eH]; exact hHm) (fun i9 h => (ho39 i9 (by omega)).trans (hof i9 h)) hP hD hS (lv_sub hl [0, 2, 3] rfl)
  refine lv_aload_n hx hb dX2_run_0 rfl (lv_at hl 0 rfl) ?_
  refine lv_aload_n hx hb dX2_run_1 rfl (lv_at hl 1 rfl) ?_
  refine zc_Vv (As := [.ref (ad 2)]) (rest := []) (wr := []) ⟨hx, hb, hml, hown, hts⟩ (p_begin l D cI cJ cE cF cR NP ad G L9 n n0 tn pv ml sv V ρ hel hst hwk0.1 hHb0 hQ9 hT h1n hn hNP) (cwV 1 hts gX2_run_X2_begin rfl rfl rfl (by decide +kernel) ⟨Nat.le_of_ble_eq_true rfl, Nat.le_of_ble_eq_true rfl⟩) hN hK hP hD hS hA (List.range NP) [] (pw_all _ _ _) rfl (pw_nd _) rfl (fun _ h9 => nomatch h9) (q0 := 5) (ci := 2) rfl rfl (pw_at (by omega) (hel)) rfl hl.1 (Nat.le_of_ble_eq_true rfl) dX2_run_2 ⟨by decide, by decide⟩ (fun w1 H locs hp hP hD hS => ?_)
  obtain ⟨G1, rfl, he1, hA1, hb1, hAr1, hR1, ho1⟩ := hp
  have hP : va_P D vwCl (pw NP ad G1) H := hP
  have hD : va_D A (pw NP ad G1) := hD
  refine lv_iconst (v := iZ 0) hx hb dX2_run_5 rfl ?_
  refine zr_eqi (((0 : Nat) : Int)) (by rfl) ?_
  refine lv_istore_n (lv' := [(2, .int (iZ (((0 : Nat) : Int)))), (0, .ref (ad 5)), (1, .ref (ad 2))]) hx hb dX2_run_6 rfl hl (by decide) rfl (fun ls hl => ?_)
  exact clp n 0 G1 ρ PR 470 1 H locs ls (by omega) he1 ⟨(ho1 33 (by omega)).trans hst.1, (ho1 34 (by omega)).trans hst.2.1, (ho1 36 (by omega)).trans hst.2.2.1, hAr1, hst.2.2.2.2⟩ ⟨hA1, hwk0.2.1.keep (ho1 _ (by omega)) (ho1 _ (by omega)), hwk0.2.2.1.keep (ho1 _ (by omega)) (ho1 _ (by omega)), hwk0.2.2.2.1.keep (ho1 _ (by omega)) (ho1 _ (by omega)), hwk0.2.2.2.2.1.keep (fun k9 _ _ => ho1 k9 (by omega)), hwk0.2.2.2.2.2.1.keep (fun k9 _ _ => ho1 k9 (by omega)), hwk0.2.2.2.2.2.2.1.keep (fun k9 _ _ => ho1 k9 (by omega)), fun j hj => (hwk0.2.2.2.2.2.2.2 j hj).keep (fun k9 _ _ => ho1 k9 (by omega))⟩ hb1 ((ho1 35 (by omega)).trans hpr0) (fun j9 h => absurd h (Nat.not_lt_zero j9)) (fun i9 h => by have h9 := hR1 i9 h; exact h9) (hwk0.2.2.2.2.2.2.1.keep (fun k9 _ _ => ho1 k9 (by omega))) (show (((1 : Int).natAbs : Nat) : Int) < bg_p 1 by decide) (pLp_470 hNP) (Nat.le_trans (pe_mt_b hn (fun i j h1 h2 => Nat.le_trans (rl_b (pe_V2 hT h1 h2).1 (pe_V2 hT h1 h2).2) (by decide))) (by decide)) (fun i9 h => ho1 i9 (by omega)) hP hD hS (lv_sub hl [0, 1, 2] rfl)
