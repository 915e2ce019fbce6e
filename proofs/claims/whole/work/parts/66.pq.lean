theorem pm_pe_find {M : Nat → Nat → Rat} {E : Nat → Nat → Int} {c : Nat} : ∀ (t i : Nat), (∀ k : Nat, i ≤ k → k < i + t → (M k c = 0 ↔ E k c = 0)) → pm_find E c i t = pe_find M c i t := by
  intro t
  induction t with
  | zero => intro i _; rfl
  | succ t ih =>
    intro i h
    show (if E i c = 0 then pm_find E c (i + 1) t else i) = if M i c = 0 then pe_find M c (i + 1) t else i
    have h0 := h i (Nat.le_refl i) (by omega)
    by_cases q : M i c = 0
    · rw [if_pos q, if_pos (h0.mp q), ih (i + 1) (fun k h1 h2 => h k (by omega) (by omega))]
    · rw [if_neg q, if_neg (fun w => q (h0.mpr w))]
theorem peV_z {V : Nat → Rat} {n c : Nat} {s : peS} (h : peV V n c s) {i j : Nat} (hi : i < n) (hj : j ≤ n) : peM s i j = 0 ↔ peE s i j = 0 := by
  obtain ⟨⟨a1, a2, a3, a4, a5, a6, a7⟩, ⟨b1, b2, b3⟩, c1, d1, e1, f1, g1, g2, g3, g4⟩ := h
  have hl := pe_ne_z (b3 (peR s) (Nat.le_refl _)).1
  have hs := pe_ne_n (Nat.ne_of_gt (pe_sc_pos V (peI s i) (n + 1)))
  have hz : ∀ z : Int, (z : Rat) = 0 ↔ z = 0 := fun z => Rat.intCast_eq_zero_iff
  rw [← hz (peE s i j)]
  by_cases q : i < peR s
  · obtain ⟨k1, k2⟩ := e1 i q
    have l1 := pe_ne_z (b3 i (by omega)).1
    have l2 := pe_ne_z (b3 (i + 1) (by omega)).1
    rw [k2 j hj, k1]
    generalize (peE s i j : Rat) = x at *
    generalize (peL s (peR s) : Rat) = y at *
    generalize (peL s (i + 1) : Rat) = y1 at *
    generalize (peL s i : Rat) = y2 at *
    generalize (pe_sc V (peI s i) (n + 1) : Rat) = w at *
    constructor
    · intro h; grind
    · intro h; rw [h]; grind
  · rw [f1 i (by omega) hi j hj]
    generalize (peE s i j : Rat) = x at *
    generalize (peL s (peR s) : Rat) = y at *
    generalize (pe_sc V (peI s i) (n + 1) : Rat) = w at *
    constructor
    · intro h; grind
    · intro h; rw [h]; grind
theorem peV_row {V : Nat → Rat} {n c : Nat} {s : peS} (h : peV V n c s) (hc : c ≤ n) : pm_find (peE s) c (peR s) (n - peR s) = pe_row s n c := pm_pe_find _ _ (fun k h1 h2 => peV_z h (by have := h.1.2.1; omega) hc)
theorem pe_low {V : Nat → Rat} {n : Nat} (hT : pe_T V n) (h1 : 1 ≤ n) (hn : n ≤ 6) : ∀ c : Nat, c ≤ n → ∀ i j : Nat, peR (pe V n c) ≤ i → i < n → j < c → peM (pe V n c) i j = 0 := by
  intro c
  induction c with
  | zero => intro _ i j _ _ h; omega
  | succ c ih =>
    intro hc i j hi hin hj
    have hv := pe_ok hT h1 hn c (by omega)
    have hsp := pe_row_spec (s := pe V n c) (c := c) hv.1.2.1
    have key : pe V n (c + 1) = pe_one V n c (pe V n c) := rfl
    by_cases hr : pe_row (pe V n c) n c < n
    · have e : pe V n (c + 1) = pe_u V n c (pe V n c) := by rw [key]; exact pe_one_u hr
      have eR : peR (pe V n (c + 1)) = peR (pe V n c) + 1 := by rw [e]; rfl
      have eM : peM (pe V n (c + 1)) = pe_cl n (pe_sw n (peM (pe V n c)) (pe_row (pe V n c) n c) (peR (pe V n c))) (peR (pe V n c)) c := by rw [e]; rfl
      rw [eM]
      unfold pe_cl
      rw [if_pos ⟨hin, by omega, by omega⟩, pe_sw_b (i := i) (by omega) (show j ≤ n by omega), pe_sw_b (i := i) (by omega) (show c ≤ n by omega), pe_sw_t (show j ≤ n by omega), pe_sw_t (show c ≤ n by omega)]
      by_cases q : j = c
      · rw [q]
        have h5 := hsp.2.2.2 hr
        generalize peM (pe V n c) (pe_row (pe V n c) n c) c = y at *
        generalize peM (pe V n c) (if i = pe_row (pe V n c) n c then peR (pe V n c) else i) c = x at *
        grind
      · rw [ih (by omega) _ j (by split <;> omega) (by split <;> omega) (by omega), ih (by omega) _ j hsp.1 hr (by omega), Rat.mul_zero, Rat.sub_eq_add_neg, Rat.neg_zero, Rat.add_zero]
    · have e : pe V n (c + 1) = _ := key.trans (if_neg hr)
      have eR : peR (pe V n (c + 1)) = peR (pe V n c) := by rw [e]; rfl
      have eM : peM (pe V n (c + 1)) = peM (pe V n c) := by rw [e]; rfl
      rw [eM]
      by_cases q : j = c
      · rw [q]
        exact hsp.2.2.1 i (by omega) (by omega)
      · exact ih (by omega) i j (by omega) hin (by omega)
theorem pe_43 : 7 * pe_B 6 < 2147483648 ^ 43 := by decide +kernel
theorem pe_36 : pe_B 5 < 2147483648 ^ 36 ∧ pe_B 4 * 2147483648 ^ 7 < 2147483648 ^ 36 := by decide +kernel
theorem bg_pn (n : Nat) : bg_p n = ((2147483648 ^ n : Nat) : Int) := by show (2147483648 : Int) ^ n = _; simp
theorem peV_E43 {V : Nat → Rat} {n c : Nat} {s : peS} (hT : pe_T V n) (hn : n ≤ 6) (h : peV V n c s) {i j : Nat} (hi : i < n) (hj : j ≤ n) : ((peE s i j).natAbs : Int) < bg_p 43 := by
  have h1 := peV_E hT hn h hi hj
  have h2 := h.1.2.1
  have h3 : pe_B (if i < peR s then peR s else peR s + 1) ≤ pe_B 6 := pe_B_le (by split <;> omega)
  have h4 := pe_43
  rw [bg_pn]
  exact Int.ofNat_lt.mpr (by omega)
theorem peV_L43 {V : Nat → Rat} {n c : Nat} {s : peS} (hn : n ≤ 6) (h : peV V n c s) : ((peL s (peR s)).natAbs : Int) < bg_p 43 ∧ peL s (peR s) ≠ 0 := by
  have h1 := h.2.1.2.2 (peR s) (Nat.le_refl _)
  have h2 := h.1.2.1
  have h3 := pe_B_le (a := peR s) (b := 6) (by omega)
  have h4 := pe_43
  rw [bg_pn]
  exact ⟨Int.ofNat_lt.mpr (by omega), h1.1⟩
/-- a pivot's cell, small -/
theorem peV_p36 {V : Nat → Rat} {n c : Nat} {s : peS} (hT : pe_T V n) (hn : n ≤ 6) (h : peV V n c s) {i : Nat} (hi : i < peR s) (h5 : i ≤ 4) : ((peM s i (peC s i)).num.natAbs : Int) < bg_p 36 ∧ ((peM s i (peC s i)).den : Int) < bg_p 36 := by
  obtain ⟨⟨a1, a2, a3, a4, a5, a6, a7⟩, ⟨b1, b2, b3⟩, c1, d1, e1, f1, g1, g2, g3, g4⟩ := h
  obtain ⟨k1, k2⟩ := e1 i hi
  have l1 := b3 i (by omega)
  have l2 := b3 (i + 1) (by omega)
  have hs := pe_sc7 hT (g1 i (by omega)) hn
  have hs0 := pe_sc_pos V (peI s i) (n + 1)
  have e : peM s i (peC s i) = (peL s (i + 1) : Rat) / ((peL s i * (pe_sc V (peI s i) (n + 1) : Int) : Int) : Rat) := by
    rw [k1, Rat.intCast_mul]; rfl
  have r := pe_lowest (Int.mul_ne_zero l1.1 (by omega)) e
  rw [Int.natAbs_mul, Int.natAbs_natCast] at r
  have B5 := pe_B_le (a := i + 1) (b := 5) (by omega)
  have B4 := pe_B_le (a := i) (b := 4) (by omega)
  have hm : (peL s i).natAbs * pe_sc V (peI s i) (n + 1) ≤ pe_B 4 * 2147483648 ^ 7 := Nat.mul_le_mul (Nat.le_trans l1.2 B4) hs
  have h36 := pe_36
  rw [bg_pn]
  exact ⟨Int.ofNat_lt.mpr (by omega), Int.ofNat_lt.mpr (by omega)⟩

/-- where the row at place k came from -/
def pe_sg (a b k : Nat) : Nat := if k = a then b else if k = b then a else k
theorem pe_sw_sg {α : Type} {n : Nat} {M : Nat → Nat → α} {a b k j : Nat} (hj : j ≤ n) : pe_sw n M a b k j = M (pe_sg a b k) j := by
  unfold pe_sw pe_sg
  rw [if_pos hj]
  split
  · rfl
  · split <;> rfl
theorem pe_sg_lt {a b k n : Nat} (ha : a < n) (hb : b < n) (hk : k < n) : pe_sg a b k < n := by
  unfold pe_sg
  split
  · exact hb
  · split
    · exact ha
    · exact hk
theorem pe_Y {V : Nat → Rat} {n c : Nat} (hT : pe_T V n) (h1 : 1 ≤ n) (hn : n ≤ 6) (hc : c < n) (hr : pe_row (pe V n c) n c < n) :
    ∃ (R r : Nat), pe_row (pe V n c) n c = R ∧ peR (pe V n c) = r ∧ r ≤ R ∧ R < n ∧ r < n ∧ peR (pe V n (c + 1)) = r + 1 ∧ (peT (pe V n (c + 1)) = if R = r then peT (pe V n c) else - peT (pe V n c)) ∧ peP (pe V n (c + 1)) = zu (peP (pe V n c)) c ((r : Nat) : Int) ∧ peH (pe V n (c + 1)) = max (peH (pe V n c)) (pe_mt n (peM (pe V n (c + 1)))) ∧ peC (pe V n (c + 1)) = zu (peC (pe V n c)) r c ∧ peI (pe V n (c + 1)) = pe_pi (peI (pe V n c)) R r ∧ peL (pe V n (c + 1)) (r + 1) = peE (pe V n c) R c ∧ peE (pe V n c) R c ≠ 0 ∧
      (∀ k j : Nat, k < n → k ≠ r → j ≤ n → peL (pe V n c) r * peE (pe V n (c + 1)) k j = peE (pe V n c) R c * peE (pe V n c) (pe_sg R r k) j - peE (pe V n c) (pe_sg R r k) c * peE (pe V n c) R j) ∧
      (∀ j : Nat, j ≤ n → peE (pe V n (c + 1)) r j = peE (pe V n c) R j ∧ peM (pe V n (c + 1)) r j = peM (pe V n c) R j) ∧
      (∀ k j : Nat, k < n → k ≠ r → j ≤ n → (peE (pe V n c) (pe_sg R r k) c = 0 ∨ peE (pe V n c) R j = 0 ∨ j < c → peM (pe V n (c + 1)) k j = peM (pe V n c) (pe_sg R r k) j) ∧ (j = c → peM (pe V n (c + 1)) k j = 0) ∧ (r < k → peM (pe V n (c + 1)) k j = (peE (pe V n (c + 1)) k j : Rat) / ((peE (pe V n c) R c * ((pe_sc V (peI (pe V n (c + 1)) k) (n + 1) : Nat) : Int) : Int) : Rat)) ∧ (k < r → peM (pe V n (c + 1)) k j = (peE (pe V n (c + 1)) k j : Rat) / (peE (pe V n c) R c : Rat) * peM (pe V n c) k (peC (pe V n c) k))) := by
  have hv := pe_ok hT h1 hn c (by omega)
  have hv' := pe_ok hT h1 hn (c + 1) (by omega)
  have hsp := pe_row_spec (s := pe V n c) (c := c) hv.1.2.1
  have e : pe V n (c + 1) = pe_u V n c (pe V n c) := by show pe_one V n c (pe V n c) = _; exact pe_one_u hr
  have hy := peV_yes hT hn hc hv hr
  have hp5 := hsp.2.2.2 hr
  have hlow := pe_low hT h1 hn c (by omega)
  have hz := fun i j hi hj => peV_z hv (i := i) (j := j) hi hj
  have hz' := fun i j hi hj => peV_z hv' (i := i) (j := j) hi hj
  have eM : peM (pe V n (c + 1)) = pe_cl n (pe_sw n (peM (pe V n c)) (pe_row (pe V n c) n c) (peR (pe V n c))) (peR (pe V n c)) c := by rw [e]; rfl
  have eE : peE (pe V n (c + 1)) = pe_Ec (pe_sw n (peE (pe V n c)) (pe_row (pe V n c) n c) (peR (pe V n c))) (peL (pe V n c) (peR (pe V n c))) (peR (pe V n c)) c := by rw [e]; rfl
  have eR : peR (pe V n (c + 1)) = peR (pe V n c) + 1 := by rw [e]; rfl
  have eL : peL (pe V n (c + 1)) = zu (peL (pe V n c)) (peR (pe V n c) + 1) (peE (pe V n c) (pe_row (pe V n c) n c) c) := by rw [e]; rfl
  have eC : peC (pe V n (c + 1)) = zu (peC (pe V n c)) (peR (pe V n c)) c := by rw [e]; rfl
  have eI : peI (pe V n (c + 1)) = pe_pi (peI (pe V n c)) (pe_row (pe V n c) n c) (peR (pe V n c)) := by rw [e]; rfl
  have eT : peT (pe V n (c + 1)) = if pe_row (pe V n c) n c = peR (pe V n c) then peT (pe V n c) else - peT (pe V n c) := by rw [e]; rfl
  have eP : peP (pe V n (c + 1)) = zu (peP (pe V n c)) c ((peR (pe V n c) : Nat) : Int) := by rw [e]; rfl
  have eH : peH (pe V n (c + 1)) = max (peH (pe V n c)) (pe_mt n (peM (pe V n (c + 1)))) := by rw [e]; rfl
  have hE5 := hy.2.2
  rw [← e] at hE5
  generalize hR : pe_row (pe V n c) n c = R at *
  generalize hr9 : peR (pe V n c) = r at *
  have hrn : r < n := by have := hsp.1; omega
  have hM1 : ∀ k j : Nat, k < n → k ≠ r → j ≤ n → peM (pe V n (c + 1)) k j = peM (pe V n c) (pe_sg R r k) j - peM (pe V n c) (pe_sg R r k) c / peM (pe V n c) R c * peM (pe V n c) R j := by
    intro k j hk hkr hj
    rw [eM]
    unfold pe_cl
    rw [if_pos ⟨hk, hkr, hj⟩, pe_sw_sg hj, pe_sw_sg (show c ≤ n by omega), pe_sw_t hj, pe_sw_t (show c ≤ n by omega)]
  have eLL : peL (pe V n (c + 1)) (r + 1) = peE (pe V n c) R c := by rw [eL, zu_s]
  refine ⟨R, r, rfl, rfl, hsp.1, hr, hrn, eR, eT, eP, eH, eC, eI, eLL, hy.2.1, ?_, ?_, ?_⟩
  · intro k j hk hkr hj
    have := hE5 k j hk hkr hj
    rw [pe_sw_t (show c ≤ n by omega), pe_sw_sg hj, pe_sw_sg (show c ≤ n by omega), pe_sw_t hj] at this
    exact this
  · intro j hj
    refine ⟨?_, ?_⟩
    · rw [eE]; unfold pe_Ec; rw [if_pos rfl, pe_sw_t hj]
    · rw [eM]; unfold pe_cl; rw [if_neg (by omega), pe_sw_t hj]
  · intro k j hk hkr hj
    have hsk := pe_sg_lt (k := k) hr hrn hk
    refine ⟨fun h => ?_, fun h => ?_, fun h => ?_, fun h => ?_⟩
    · rw [hM1 k j hk hkr hj]
      rcases h with q | q | q
      · rw [(hz _ c hsk (by omega)).mpr q]
        generalize peM (pe V n c) R c = a
        generalize peM (pe V n c) R j = b
        grind
      · rw [(hz R j hr hj).mpr q, Rat.mul_zero, Rat.sub_eq_add_neg, Rat.neg_zero, Rat.add_zero]
      · rw [hlow R j hsp.1 hr q, Rat.mul_zero, Rat.sub_eq_add_neg, Rat.neg_zero, Rat.add_zero]
    · rw [hM1 k j hk hkr hj, h]
      generalize peM (pe V n c) R c = a at *
      generalize peM (pe V n c) (pe_sg R r k) c = b
      grind
    · have := hv'.2.2.2.2.2.1 k (by rw [eR]; omega) hk j hj
      rw [this, eR, eLL, Rat.intCast_mul]
      rfl
    · have h9 := hv'.2.2.2.2.1 k (by rw [eR]; omega)
      have h8 := hv.2.2.2.2.1 k (by rw [hr9]; exact h)
      have hck : peC (pe V n (c + 1)) k = peC (pe V n c) k := by rw [eC, zu_n _ _ hkr]
      have e3 : peM (pe V n (c + 1)) k (peC (pe V n c) k) = peM (pe V n c) k (peC (pe V n c) k) := by
        rw [h8.1, ← hck, h9.1, eL, zu_n _ _ (by omega), zu_n _ _ (by omega), eI, pe_pi_b hkr, if_neg (by have := hsp.1; omega)]
      rw [h9.2 j hj, hck, e3, eR, eLL, Rat.mul_comm]
