/-! ELIMINATION IN FRACTIONS, column by column -/
def pe_fl (M : Nat → Nat → Rat) (q : Nat) : Rat := M (q / 7) (q % 7)
def pe_find (M : Nat → Nat → Rat) (c : Nat) : Nat → Nat → Nat
  | i, 0 => i
  | i, t + 1 => if M i c = 0 then pe_find M c (i + 1) t else i
def pe_sw {α : Type} (n : Nat) (M : Nat → Nat → α) (a b i j : Nat) : α := if j ≤ n then (if i = a then M b j else if i = b then M a j else M i j) else M i j
def pe_cl (n : Nat) (M : Nat → Nat → Rat) (r c i j : Nat) : Rat := if i < n ∧ i ≠ r ∧ j ≤ n then M i j - M i c / M r c * M r j else M i j
def pe_pi (f : Nat → Nat) (a b i : Nat) : Nat := if i = a then f b else if i = b then f a else f i
def pe_Ec (E : Nat → Nat → Int) (lp : Int) (r c i j : Nat) : Int := if i = r then E r j else (E r c * E i j - E i c * E r j) / lp
abbrev peS := (Nat → Nat → Rat) × Nat × Int × (Nat → Int) × Nat × (Nat → Nat) × (Nat → Nat → Int) × (Nat → Int) × (Nat → Nat) × List (Nat → Int) × List Nat
def peM (s : peS) : Nat → Nat → Rat := s.1
def peR (s : peS) : Nat := s.2.1
def peT (s : peS) : Int := s.2.2.1
def peP (s : peS) : Nat → Int := s.2.2.2.1
def peH (s : peS) : Nat := s.2.2.2.2.1
def peI (s : peS) : Nat → Nat := s.2.2.2.2.2.1
def peE (s : peS) : Nat → Nat → Int := s.2.2.2.2.2.2.1
def peL (s : peS) : Nat → Int := s.2.2.2.2.2.2.2.1
def peC (s : peS) : Nat → Nat := s.2.2.2.2.2.2.2.2.1
def peW (s : peS) : List (Nat → Int) := s.2.2.2.2.2.2.2.2.2.1
def peK (s : peS) : List Nat := s.2.2.2.2.2.2.2.2.2.2
def pe_mt (n : Nat) (M : Nat → Nat → Rat) : Nat := mta (pe_fl M) n n
/-- the least common multiple of the first denominators of a row, and the scaled row -/
def pe_sc (A : Nat → Rat) (i : Nat) : Nat → Nat
  | 0 => 1
  | m + 1 => Nat.lcm (pe_sc A i m) (A (7 * i + m)).den
def pe_w (A : Nat → Rat) (n i j : Nat) : Int := if j ≤ n then (A (7 * i + j)).num * ((pe_sc A i (n + 1) / (A (7 * i + j)).den : Nat) : Int) else 0
theorem pe_w_in {A : Nat → Rat} {n i j : Nat} (hj : j ≤ n) : pe_w A n i j = (A (7 * i + j)).num * ((pe_sc A i (n + 1) / (A (7 * i + j)).den : Nat) : Int) := if_pos hj
def pe_row (s : peS) (n c : Nat) : Nat := pe_find (peM s) c (peR s) (n - peR s)
def pe_one (A : Nat → Rat) (n c : Nat) (s : peS) : peS :=
  if pe_row s n c < n then
    (pe_cl n (pe_sw n (peM s) (pe_row s n c) (peR s)) (peR s) c, peR s + 1, (if pe_row s n c = peR s then peT s else - peT s), zu (peP s) c ((peR s : Nat) : Int), max (peH s) (pe_mt n (pe_cl n (pe_sw n (peM s) (pe_row s n c) (peR s)) (peR s) c)), pe_pi (peI s) (pe_row s n c) (peR s), pe_Ec (pe_sw n (peE s) (pe_row s n c) (peR s)) (peL s (peR s)) (peR s) c, zu (peL s) (peR s + 1) (peE s (pe_row s n c) c), zu (peC s) (peR s) c, pe_w A n (peI s (pe_row s n c)) :: peW s, c :: peK s)
  else (peM s, peR s, peT s, zu (peP s) c (-1), peH s, peI s, peE s, peL s, peC s, peW s, peK s)
def pe (A : Nat → Rat) (n : Nat) : Nat → peS
  | 0 => (fun i j => A (7 * i + j), 0, 1, fun _ => -1, pe_mt n (fun i j => A (7 * i + j)), fun i => i, pe_w A n, fun _ => 1, fun i => i, [], [])
  | c + 1 => pe_one A n c (pe A n c)
theorem pe_find_spec (M : Nat → Nat → Rat) (c : Nat) : ∀ (t i : Nat), i ≤ pe_find M c i t ∧ pe_find M c i t ≤ i + t ∧ (∀ k : Nat, i ≤ k → k < pe_find M c i t → M k c = 0) ∧ (pe_find M c i t < i + t → M (pe_find M c i t) c ≠ 0) := by
  intro t
  induction t with
  | zero => intro i; exact ⟨Nat.le_refl _, Nat.le_refl _, fun k h1 h2 => absurd h2 (by show ¬ k < i; omega), fun h => absurd h (by show ¬ i < i + 0; omega)⟩
  | succ t ih =>
    intro i
    by_cases h : M i c = 0
    · have e : pe_find M c i (t + 1) = pe_find M c (i + 1) t := if_pos h
      have := ih (i + 1)
      rw [e]
      refine ⟨by omega, by omega, fun k h1 h2 => ?_, fun h2 => this.2.2.2 (by omega)⟩
      by_cases q : k = i
      · rw [q]; exact h
      · exact this.2.2.1 k (by omega) h2
    · have e : pe_find M c i (t + 1) = i := if_neg h
      rw [e]
      exact ⟨Nat.le_refl _, by omega, fun k h1 h2 => absurd h2 (by omega), fun _ => h⟩
theorem pe_row_spec {s : peS} {n c : Nat} (h : peR s ≤ n) : peR s ≤ pe_row s n c ∧ pe_row s n c ≤ n ∧ (∀ k : Nat, peR s ≤ k → k < pe_row s n c → peM s k c = 0) ∧ (pe_row s n c < n → peM s (pe_row s n c) c ≠ 0) := by
  have := pe_find_spec (peM s) c (n - peR s) (peR s)
  rw [show peR s + (n - peR s) = n by omega] at this
  exact this
/-- the told numbers are small -/
def pe_T (A : Nat → Rat) (n : Nat) : Prop := ∀ i j : Nat, i < n → j ≤ n → (A (7 * i + j)).num.natAbs ≤ 2147483648 ∧ (A (7 * i + j)).den ≤ 2147483648
theorem pe_sc_pos (A : Nat → Rat) (i : Nat) : ∀ m : Nat, 0 < pe_sc A i m := by
  intro m
  induction m with
  | zero => exact Nat.one_pos
  | succ m ih => exact Nat.lcm_pos ih (A (7 * i + m)).den_pos
theorem pe_sc_dvd (A : Nat → Rat) (i : Nat) : ∀ (m j : Nat), j < m → (A (7 * i + j)).den ∣ pe_sc A i m := by
  intro m
  induction m with
  | zero => intro j h; omega
  | succ m ih =>
    intro j h
    by_cases q : j = m
    · rw [q]; exact Nat.dvd_lcm_right _ _
    · exact Nat.dvd_trans (ih j (by omega)) (Nat.dvd_lcm_left _ _)
/-- the product of the denominators but one -/
def pe_pr (A : Nat → Rat) (i j : Nat) : Nat → Nat
  | 0 => 1
  | m + 1 => pe_pr A i j m * (if m = j then 1 else (A (7 * i + m)).den)
theorem pe_sc_but (A : Nat → Rat) (i j : Nat) : ∀ m : Nat, pe_sc A i m ∣ (A (7 * i + j)).den * pe_pr A i j m := by
  intro m
  induction m with
  | zero => exact Nat.one_dvd _
  | succ m ih =>
    refine Nat.lcm_dvd (Nat.dvd_trans ih ?_) ?_
    · exact Nat.mul_dvd_mul_left _ (Nat.dvd_mul_right _ _)
    · show _ ∣ _ * (_ * (if m = j then 1 else (A (7 * i + m)).den))
      by_cases q : m = j
      · rw [q]; exact Nat.dvd_mul_right _ _
      · rw [if_neg q, ← Nat.mul_assoc]; exact Nat.dvd_mul_left _ _
theorem pe_pr_le {A : Nat → Rat} {n i : Nat} (h : pe_T A n) (hi : i < n) (j : Nat) : ∀ m : Nat, m ≤ n + 1 → pe_pr A i j m ≤ 2147483648 ^ (if j < m then m - 1 else m) ∧ 0 < pe_pr A i j m := by
  intro m
  induction m with
  | zero => intro _; exact ⟨by show 1 ≤ _; exact Nat.pow_pos (by decide), Nat.one_pos⟩
  | succ m ih =>
    intro hm
    have h1 := ih (by omega)
    have hd := (h i m hi (by omega)).2
    show pe_pr A i j m * (if m = j then 1 else (A (7 * i + m)).den) ≤ _ ∧ 0 < pe_pr A i j m * (if m = j then 1 else (A (7 * i + m)).den)
    by_cases q : m = j
    · rw [if_pos q, Nat.mul_one, if_pos (by omega)]
      rw [if_neg (by omega)] at h1
      exact h1
    · rw [if_neg q]
      refine ⟨?_, Nat.mul_pos h1.2 (A (7 * i + m)).den_pos⟩
      refine Nat.le_trans (Nat.mul_le_mul h1.1 hd) ?_
      rw [← Nat.pow_succ]
      refine Nat.pow_le_pow_right (by decide) ?_
      split <;> split <;> omega
theorem pe_w_le {A : Nat → Rat} {n i j : Nat} (h : pe_T A n) (hn : n ≤ 6) (hi : i < n) : (pe_w A n i j).natAbs ≤ 2147483648 ^ 7 := by
  by_cases hj : j ≤ n
  case neg => rw [show pe_w A n i j = 0 from if_neg hj]; exact Nat.zero_le _
  have h1 := pe_sc_but A i j (n + 1)
  have h2 := pe_pr_le h hi j (n + 1) (Nat.le_refl _)
  have h3 := pe_sc_dvd A i (n + 1) j (by omega)
  have h4 := h i j hi hj
  rw [if_pos (by omega)] at h2
  have h5 : pe_sc A i (n + 1) / (A (7 * i + j)).den ≤ 2147483648 ^ 6 := by
    refine Nat.le_trans (Nat.div_le_of_le_mul (Nat.le_of_dvd (Nat.mul_pos (A (7 * i + j)).den_pos h2.2) h1)) (Nat.le_trans h2.1 (Nat.pow_le_pow_right (by decide) (by omega)))
  rw [pe_w_in hj, Int.natAbs_mul, Int.natAbs_natCast, Nat.pow_succ 2147483648 6, Nat.mul_comm]
  exact Nat.mul_le_mul h5 h4.1
theorem pe_sc_le {A : Nat → Rat} {n i : Nat} (h : pe_T A n) (hi : i < n) : ∀ m : Nat, m ≤ n + 1 → pe_sc A i m ≤ 2147483648 ^ m := by
  intro m
  induction m with
  | zero => intro _; exact Nat.le_refl 1
  | succ m ih =>
    intro hm
    have h1 := ih (by omega)
    have hd := (h i m hi (by omega)).2
    refine Nat.le_trans (Nat.le_of_dvd (Nat.mul_pos (pe_sc_pos A i m) (A (7 * i + m)).den_pos) (Nat.lcm_dvd_mul _ _)) ?_
    rw [Nat.pow_succ]
    exact Nat.mul_le_mul h1 hd
theorem pe_w_q {A : Nat → Rat} {n i j : Nat} (hj : j ≤ n) : A (7 * i + j) = (pe_w A n i j : Rat) / (pe_sc A i (n + 1) : Rat) := by
  have h3 := pe_sc_dvd A i (n + 1) j (by omega)
  obtain ⟨k, hk⟩ := h3
  have hd := (A (7 * i + j)).den_pos
  have hs := pe_sc_pos A i (n + 1)
  rw [pe_w_in hj]
  rw [hk] at *
  rw [Nat.mul_div_cancel_left k hd]
  have hk0 : k ≠ 0 := fun q => by rw [q] at hs; omega
  have e := (Rat.mkRat_eq_div (A (7 * i + j)).num (A (7 * i + j)).den).symm.trans (Rat.mkRat_self _)
  have hk1 : (k : Rat) ≠ 0 := fun q => hk0 (Rat.natCast_eq_zero_iff.mp q)
  have hd1 : ((A (7 * i + j)).den : Rat) ≠ 0 := fun q => absurd (Rat.natCast_eq_zero_iff.mp q) (by omega)
  rw [Rat.intCast_mul, Rat.natCast_mul]
  have e2 : (((k : Nat) : Int) : Rat) = (k : Rat) := rfl
  rw [e2]
  generalize (A (7 * i + j)).den = d at *
  generalize (A (7 * i + j)).num = z at *
  rw [← e]
  grind
def pe_B : Nat → Nat
  | 0 => 1
  | k + 1 => (k + 1) * (2147483648 ^ 7 * pe_B k)
theorem ba_dt_le : ∀ (rows : List (Nat → Int)) (cols : List Nat), cols.length = rows.length → (∀ w ∈ rows, ∀ x : Nat, (w x).natAbs ≤ 2147483648 ^ 7) → (ba_dt rows cols).natAbs ≤ pe_B rows.length := by
  intro rows
  induction rows with
  | nil => intro cols _ _; exact Nat.le_refl 1
  | cons w rows ih =>
    intro cols hl hw
    have h1 := ba_iw_le (w := w) (b := ((2147483648 ^ 7 : Nat) : Int)) (M := (pe_B rows.length : Int)) (Int.natCast_nonneg _) (Int.natCast_nonneg _) (cs := cols) (F := fun l => ba_dt rows l) (L := cols.length) (fun c _ => by have := hw w List.mem_cons_self c; omega) (fun l hl2 _ => by
      have := ih l (by rw [List.length_cons] at hl; omega) (fun u hu => hw u (List.mem_cons_of_mem w hu))
      show -(pe_B rows.length : Int) ≤ ba_dt rows l ∧ ba_dt rows l ≤ _
      omega) rfl
    rw [ba_dt_c]
    have e : ((pe_B (w :: rows).length : Nat) : Int) = (cols.length : Int) * (((2147483648 ^ 7 : Nat) : Int) * (pe_B rows.length : Int)) := by
      rw [hl, ← Int.natCast_mul, ← Int.natCast_mul]; rfl
    rw [← e] at h1
    omega
theorem ba_ind_le (rows : List (Nat → Int)) (cols : List Nat) (c j : Nat) (hl : cols.length = rows.length) (hw : ∀ w ∈ rows, ∀ x : Nat, (w x).natAbs ≤ 2147483648 ^ 7) : (ba_st rows cols (ba_ind c) j).natAbs ≤ (rows.length + 1) * pe_B rows.length := by
  have h1 := ba_iw_le (w := ba_ind c) (b := 1) (M := (pe_B rows.length : Int)) (by decide) (Int.natCast_nonneg _) (cs := j :: cols) (F := fun l => ba_dt rows l) (L := cols.length + 1) (fun x _ => by unfold ba_ind; split <;> decide) (fun l hl2 _ => by
      have := ba_dt_le rows l (by omega) hw
      show -(pe_B rows.length : Int) ≤ ba_dt rows l ∧ ba_dt rows l ≤ _
      omega) rfl
  show (ba_iw (ba_ind c) (j :: cols) (fun l => ba_dt rows l)).natAbs ≤ _
  have e : (((rows.length + 1) * pe_B rows.length : Nat) : Int) = (((j :: cols).length : Nat) : Int) * (1 * (pe_B rows.length : Int)) := by
    rw [List.length_cons, hl, Int.one_mul, Int.natCast_mul]
  rw [← e] at h1
  omega
theorem ba_st_le (rows : List (Nat → Int)) (cols : List Nat) (w : Nat → Int) (j : Nat) (hl : cols.length = rows.length) (hw : ∀ w ∈ rows, ∀ x : Nat, (w x).natAbs ≤ 2147483648 ^ 7) (h : ∀ x : Nat, (w x).natAbs ≤ 2147483648 ^ 7) : (ba_st rows cols w j).natAbs ≤ pe_B (rows.length + 1) :=
  ba_dt_le (w :: rows) (j :: cols) (by rw [List.length_cons, List.length_cons, hl]) (fun u hu => by
    rcases List.mem_cons.mp hu with q | q
    · rw [q]; exact h
    · exact hw u q)
/-- what holds of the state in front of column c -/
def peV (A : Nat → Rat) (n c : Nat) (s : peS) : Prop :=
  (peR s ≤ c ∧ peR s ≤ n ∧ ba_H (peW s) (peK s) ∧ (peW s).length = peR s ∧ (peK s).length = peR s ∧ (∀ x ∈ peK s, x < c) ∧ (∀ w ∈ peW s, ∀ x : Nat, (w x).natAbs ≤ 2147483648 ^ 7)) ∧
  (peL s 0 = 1 ∧ peL s (peR s) = ba_dt (peW s) (peK s) ∧ ∀ k : Nat, k ≤ peR s → peL s k ≠ 0 ∧ (peL s k).natAbs ≤ pe_B k) ∧
  (∀ i : Nat, i < peR s → peC s i ∈ peK s ∧ i ≤ peC s i ∧ peC s i + peR s ≤ i + c ∧ peP s (peC s i) = (i : Int) ∧ peE s i (peC s i) = peL s (peR s) ∧ ∀ j : Nat, j ≤ n → j ≠ peC s i → peE s i j = - ba_st (peW s) (peK s) (ba_ind (peC s i)) j) ∧
  (∀ i : Nat, peR s ≤ i → i < n → ∀ j : Nat, j ≤ n → peE s i j = ba_st (peW s) (peK s) (pe_w A n (peI s i)) j) ∧
  (∀ i : Nat, i < peR s → peM s i (peC s i) = (peL s (i + 1) : Rat) / ((peL s i : Rat) * (pe_sc A (peI s i) (n + 1) : Rat)) ∧ ∀ j : Nat, j ≤ n → peM s i j = peM s i (peC s i) * ((peE s i j : Rat) / (peL s (peR s) : Rat))) ∧
  (∀ i : Nat, peR s ≤ i → i < n → ∀ j : Nat, j ≤ n → peM s i j = (peE s i j : Rat) / ((peL s (peR s) : Rat) * (pe_sc A (peI s i) (n + 1) : Rat))) ∧
  (∀ i : Nat, i < n → peI s i < n) ∧ pe_mt n (peM s) ≤ peH s ∧ (∀ j : Nat, j < c → peP s j = -1 ∨ ∃ i : Nat, i < peR s ∧ peP s j = (i : Int) ∧ peC s i = j) ∧ (peT s = 1 ∨ peT s = -1)
theorem peV0 {A : Nat → Rat} {n : Nat} (hn : 1 ≤ n) : peV A n 0 (pe A n 0) := by
  refine ⟨⟨Nat.le_refl 0, Nat.zero_le n, ba_H0, rfl, rfl, fun x hx => absurd hx List.not_mem_nil, fun x hx => absurd hx List.not_mem_nil⟩, ⟨rfl, rfl, fun k hk => ?_⟩, fun i hi => absurd hi (Nat.not_lt_zero i), fun i _ hi j hj => ?_, fun i hi => absurd hi (Nat.not_lt_zero i), fun i _ hi j hj => ?_, fun i hi => hi, Nat.le_refl _, fun j hj => absurd hj (Nat.not_lt_zero j), Or.inl rfl⟩
  · obtain rfl : k = 0 := Nat.le_zero.mp hk
    exact ⟨show (1 : Int) ≠ 0 by decide, show (1 : Int).natAbs ≤ 1 by decide⟩
  · show pe_w A n i j = pe_w A n i j * 1 - 0
    omega
  · show A (7 * i + j) = (pe_w A n i j : Rat) / ((1 : Int) * (pe_sc A i (n + 1) : Rat))
    rw [pe_w_q (A := A) (i := i) hj, show (((1 : Int)) : Rat) = 1 from rfl, Rat.one_mul]
theorem pe_ne_z {z : Int} (h : z ≠ 0) : (z : Rat) ≠ 0 := fun q => h (Rat.intCast_eq_zero_iff.mp q)
theorem pe_ne_n {z : Nat} (h : z ≠ 0) : (z : Rat) ≠ 0 := fun q => h (Rat.natCast_eq_zero_iff.mp q)
theorem pe_rf1 {z1 z2 z3 z4 : Rat} (h1 : z1 ≠ 0) (h2 : z2 ≠ 0) (h3 : z3 ≠ 0) : z4 / (z2 * z1) = z3 / (z2 * z1) * (z4 / z3) := by grind
theorem pe_rf2 {z1 z2 z3 z4 z5 z6 z7 z8 : Rat} (h1 : z1 ≠ 0) (h2 : z2 ≠ 0) (h3 : z3 ≠ 0) (h : z2 * z7 = z3 * z5 - z6 * z4) : z8 * (z5 / z2) - z8 * (z6 / z2) / (z3 / (z2 * z1)) * (z4 / (z2 * z1)) = z8 * (z7 / z3) := by grind
theorem pe_rf3 {z3 z8 : Rat} (h3 : z3 ≠ 0) : z8 * (z3 / z3) = z8 := by grind
theorem pe_rf4 {z1 z2 z3 z4 z5 z6 z7 z9 : Rat} (h1 : z1 ≠ 0) (h9 : z9 ≠ 0) (h2 : z2 ≠ 0) (h3 : z3 ≠ 0) (h : z2 * z7 = z3 * z5 - z6 * z4) : z5 / (z2 * z9) - z6 / (z2 * z9) / (z3 / (z2 * z1)) * (z4 / (z2 * z1)) = z7 / (z3 * z9) := by grind
theorem peV_no {A : Nat → Rat} {n c : Nat} {s : peS} (h : peV A n c s) (hr : ¬ pe_row s n c < n) : peV A n (c + 1) (pe_one A n c s) := by
  have e : pe_one A n c s = (peM s, peR s, peT s, zu (peP s) c (-1), peH s, peI s, peE s, peL s, peC s, peW s, peK s) := if_neg hr
  rw [e]
  obtain ⟨⟨a1, a2, a3, a4, a5, a6, a7⟩, b, c1, d1, e1, f1, g1, g2, g3, g4⟩ := h
  refine ⟨⟨Nat.le_succ_of_le a1, a2, a3, a4, a5, fun x hx => Nat.lt_succ_of_lt (a6 x hx), a7⟩, b, fun i hi => ?_, d1, e1, f1, g1, g2, fun j hj => ?_, g4⟩
  · obtain ⟨h1, h2, h3, h4, h5⟩ := c1 i hi
    refine ⟨h1, h2, Nat.le_succ_of_le h3, ?_, h5⟩
    show zu (peP s) c (-1) (peC s i) = _
    rw [zu_n _ _ (by have := a6 _ h1; omega)]
    exact h4
  · by_cases q : j = c
    · left; rw [q]; exact zu_s _ _ _
    · have e2 : peP (peM s, peR s, peT s, zu (peP s) c (-1), peH s, peI s, peE s, peL s, peC s, peW s, peK s) j = peP s j := zu_n _ _ q
      rw [e2]
      exact g3 j (by omega)
theorem pe_Ec_n {E : Nat → Nat → Int} {lp : Int} {r c i j : Nat} {x : Int} (hi : i ≠ r) (h0 : lp ≠ 0) (h : E r c * E i j - E i c * E r j = lp * x) : pe_Ec E lp r c i j = x := by
  unfold pe_Ec
  rw [if_neg hi, h, Int.mul_ediv_cancel_left _ h0]
/-- the step with a pivot, in parts -/
def pe_u (A : Nat → Rat) (n c : Nat) (s : peS) : peS := (pe_cl n (pe_sw n (peM s) (pe_row s n c) (peR s)) (peR s) c, peR s + 1, (if pe_row s n c = peR s then peT s else - peT s), zu (peP s) c ((peR s : Nat) : Int), max (peH s) (pe_mt n (pe_cl n (pe_sw n (peM s) (pe_row s n c) (peR s)) (peR s) c)), pe_pi (peI s) (pe_row s n c) (peR s), pe_Ec (pe_sw n (peE s) (pe_row s n c) (peR s)) (peL s (peR s)) (peR s) c, zu (peL s) (peR s + 1) (peE s (pe_row s n c) c), zu (peC s) (peR s) c, pe_w A n (peI s (pe_row s n c)) :: peW s, c :: peK s)
theorem pe_one_u {A : Nat → Rat} {n c : Nat} {s : peS} (h : pe_row s n c < n) : pe_one A n c s = pe_u A n c s := if_pos h
theorem pe_sw_t {α : Type} {n : Nat} {M : Nat → Nat → α} {a b j : Nat} (hj : j ≤ n) : pe_sw n M a b b j = M a j := by
  unfold pe_sw
  rw [if_pos hj]
  by_cases q : b = a
  · rw [if_pos q, q]
  · rw [if_neg q, if_pos rfl]
theorem pe_sw_o {α : Type} {n : Nat} {M : Nat → Nat → α} {a b i j : Nat} (h1 : i ≠ a) (h2 : i ≠ b) : pe_sw n M a b i j = M i j := by
  unfold pe_sw
  rw [if_neg h1, if_neg h2]
  split <;> rfl
theorem pe_sw_b {α : Type} {n : Nat} {M : Nat → Nat → α} {a b i j : Nat} (hb : i ≠ b) (hj : j ≤ n) : pe_sw n M a b i j = M (if i = a then b else i) j := by
  unfold pe_sw
  rw [if_pos hj]
  by_cases q : i = a
  · rw [if_pos q, if_pos q]
  · rw [if_neg q, if_neg q, if_neg hb]
theorem pe_pi_b {f : Nat → Nat} {a b i : Nat} (hb : i ≠ b) : pe_pi f a b i = f (if i = a then b else i) := by
  unfold pe_pi
  by_cases q : i = a
  · rw [if_pos q, if_pos q]
  · rw [if_neg q, if_neg q, if_neg hb]
theorem pe_pi_t {f : Nat → Nat} {a b : Nat} : pe_pi f a b b = f a := by
  unfold pe_pi
  by_cases q : b = a
  · rw [if_pos q, q]
  · rw [if_neg q, if_pos rfl]
theorem peV_yes {A : Nat → Rat} {n c : Nat} {s : peS} (hT : pe_T A n) (hn : n ≤ 6) (hc : c < n) (h : peV A n c s) (hr : pe_row s n c < n) : peV A n (c + 1) (pe_u A n c s) ∧ peE s (pe_row s n c) c ≠ 0 ∧ ∀ i j : Nat, i < n → i ≠ peR s → j ≤ n → peL s (peR s) * peE (pe_u A n c s) i j = pe_sw n (peE s) (pe_row s n c) (peR s) (peR s) c * pe_sw n (peE s) (pe_row s n c) (peR s) i j - pe_sw n (peE s) (pe_row s n c) (peR s) i c * pe_sw n (peE s) (pe_row s n c) (peR s) (peR s) j := by
  obtain ⟨⟨a1, a2, a3, a4, a5, a6, a7⟩, ⟨b1, b2, b3⟩, c1, d1, e1, f1, g1, g2, g3, g4⟩ := h
  obtain ⟨r1, r2, r3, r4⟩ := pe_row_spec (s := s) (c := c) a2
  have r5 := r4 hr
  generalize hR : pe_row s n c = R at *
  generalize hr9 : peR s = r at *
  have hlp := (b3 r (Nat.le_refl r)).1
  have hsc := fun i => pe_ne_n (Nat.ne_of_gt (pe_sc_pos A i (n + 1)))
  have ec : peE s R c = ba_st (peW s) (peK s) (pe_w A n (peI s R)) c := d1 R r1 hr c (by omega)
  have hp : peE s R c ≠ 0 := fun q => r5 (by rw [f1 R r1 hr c (by omega), q, Rat.div_def, Rat.intCast_zero, Rat.zero_mul])
  have hccl : c ∉ peK s := fun q => absurd (a6 c q) (by omega)
  have hH : ba_H (pe_w A n (peI s R) :: peW s) (c :: peK s) := ba_step a3 (by rw [← ec]; exact hp)
  -- the entries, exchanged
  have t1 : ∀ j : Nat, j ≤ n → pe_sw n (peE s) R r r j = ba_st (peW s) (peK s) (pe_w A n (peI s R)) j := fun j hj => by rw [pe_sw_t hj]; exact d1 R r1 hr j hj
  have two := fun (w : Nat → Int) (j : Nat) => ba_two a3 w (pe_w A n (peI s R)) j c
  have u1 : ∀ i j : Nat, i < r → j ≤ n → j ≠ peC s i → pe_sw n (peE s) R r r c * pe_sw n (peE s) R r i j - pe_sw n (peE s) R r i c * pe_sw n (peE s) R r r j = peL s r * (- ba_dt (ba_ind (peC s i) :: pe_w A n (peI s R) :: peW s) (j :: c :: peK s)) := by
    intro i j hi hj hjc
    obtain ⟨h1, h2, h3, h4, h5, h6⟩ := c1 i hi
    have := two (ba_ind (peC s i)) j
    rw [t1 c (by omega), t1 j hj, pe_sw_o (i := i) (by omega) (by omega), pe_sw_o (i := i) (by omega) (by omega), h6 j hj hjc, h6 c (by omega) (by have := a6 _ h1; omega), b2]
    generalize ba_dt (ba_ind (peC s i) :: pe_w A n (peI s R) :: peW s) (j :: c :: peK s) = T at *
    grind
  have u2 : ∀ i : Nat, i < r → pe_sw n (peE s) R r r c * pe_sw n (peE s) R r i (peC s i) - pe_sw n (peE s) R r i c * pe_sw n (peE s) R r r (peC s i) = peL s r * peE s R c := by
    intro i hi
    obtain ⟨h1, h2, h3, h4, h5, h6⟩ := c1 i hi
    have h7 := a6 _ h1
    rw [t1 c (by omega), t1 (peC s i) (by omega), pe_sw_o (i := i) (by omega) (by omega), a3.2.1 _ _ h1, h5, ec]
    grind
  have u3 : ∀ i j : Nat, r < i → i < n → j ≤ n → pe_sw n (peE s) R r r c * pe_sw n (peE s) R r i j - pe_sw n (peE s) R r i c * pe_sw n (peE s) R r r j = peL s r * ba_dt (pe_w A n (pe_pi (peI s) R r i) :: pe_w A n (peI s R) :: peW s) (j :: c :: peK s) := by
    intro i j hi hin hj
    have := two (pe_w A n (pe_pi (peI s) R r i)) j
    rw [t1 c (by omega), t1 j hj, pe_sw_b (i := i) (by omega) hj, pe_sw_b (i := i) (by omega) (show c ≤ n by omega), d1 _ (by split <;> omega) (by split <;> omega) j hj, d1 _ (by split <;> omega) (by split <;> omega) c (by omega), b2, this, pe_pi_b (i := i) (by omega)]
    grind
  have E1 : ∀ i j : Nat, i < r → j ≤ n → j ≠ peC s i → peE (pe_u A n c s) i j = - ba_dt (ba_ind (peC s i) :: pe_w A n (peI s R) :: peW s) (j :: c :: peK s) := by
    intro i j hi hj hjc
    show pe_Ec (pe_sw n (peE s) (pe_row s n c) (peR s)) (peL s (peR s)) (peR s) c i j = _
    rw [hR, hr9]
    exact pe_Ec_n (by omega) hlp (u1 i j hi hj hjc)
  have E2 : ∀ i : Nat, i < r → peE (pe_u A n c s) i (peC s i) = peE s R c := by
    intro i hi
    show pe_Ec (pe_sw n (peE s) (pe_row s n c) (peR s)) (peL s (peR s)) (peR s) c i _ = _
    rw [hR, hr9]
    exact pe_Ec_n (by omega) hlp (u2 i hi)
  have E3 : ∀ i j : Nat, r < i → i < n → j ≤ n → peE (pe_u A n c s) i j = ba_dt (pe_w A n (pe_pi (peI s) R r i) :: pe_w A n (peI s R) :: peW s) (j :: c :: peK s) := by
    intro i j hi hin hj
    show pe_Ec (pe_sw n (peE s) (pe_row s n c) (peR s)) (peL s (peR s)) (peR s) c i j = _
    rw [hR, hr9]
    exact pe_Ec_n (by omega) hlp (u3 i j hi hin hj)
  have E4 : ∀ j : Nat, j ≤ n → peE (pe_u A n c s) r j = ba_st (peW s) (peK s) (pe_w A n (peI s R)) j := by
    intro j hj
    show pe_Ec (pe_sw n (peE s) (pe_row s n c) (peR s)) (peL s (peR s)) (peR s) c r j = _
    rw [hR, hr9]
    unfold pe_Ec
    rw [if_pos rfl]
    exact t1 j hj
  have E5 : ∀ i j : Nat, i < n → i ≠ r → j ≤ n → peL s r * peE (pe_u A n c s) i j = pe_sw n (peE s) R r r c * pe_sw n (peE s) R r i j - pe_sw n (peE s) R r i c * pe_sw n (peE s) R r r j := by
    intro i j hi hir hj
    by_cases q : i < r
    · by_cases q2 : j = peC s i
      · rw [q2, u2 i q, E2 i q]
      · rw [u1 i j q hj q2, E1 i j q hj q2]
    · rw [u3 i j (by omega) hi hj, E3 i j (by omega) hi hj]
  have hnr : peR (pe_u A n c s) = r + 1 := by show peR s + 1 = _; rw [hr9]
  have hnlp : peL (pe_u A n c s) = zu (peL s) (r + 1) (peE s R c) := by show zu (peL s) (peR s + 1) (peE s (pe_row s n c) c) = _; rw [hr9, hR]
  have hncs : peC (pe_u A n c s) = zu (peC s) r c := by show zu (peC s) (peR s) c = _; rw [hr9]
  have hnrw : peW (pe_u A n c s) = pe_w A n (peI s R) :: peW s := by show pe_w A n (peI s (pe_row s n c)) :: peW s = _; rw [hR]
  have hncl : peK (pe_u A n c s) = c :: peK s := rfl
  have hnpi : peI (pe_u A n c s) = pe_pi (peI s) R r := by show pe_pi (peI s) (pe_row s n c) (peR s) = _; rw [hR, hr9]
  have hnpc : peP (pe_u A n c s) = zu (peP s) c (r : Int) := by show zu (peP s) c ((peR s : Nat) : Int) = _; rw [hr9]
  have hnM : peM (pe_u A n c s) = pe_cl n (pe_sw n (peM s) R r) r c := by show pe_cl n (pe_sw n (peM s) (pe_row s n c) (peR s)) (peR s) c = _; rw [hR, hr9]
  have hll : peL (pe_u A n c s) (r + 1) = peE s R c := by rw [hnlp, zu_s]
  -- the fractions, exchanged
  have m0 : ∀ j : Nat, j ≤ n → pe_sw n (peM s) R r r j = ((pe_sw n (peE s) R r r j : Int) : Rat) / ((peL s r : Rat) * (pe_sc A (peI s R) (n + 1) : Rat)) := fun j hj => by
    rw [pe_sw_t hj, pe_sw_t hj]; exact f1 R r1 hr j hj
  have ep : pe_sw n (peE s) R r r c = peE s R c := pe_sw_t (by omega)
  have M0 : ∀ j : Nat, j ≤ n → peM (pe_u A n c s) r j = ((pe_sw n (peE s) R r r j : Int) : Rat) / ((peL s r : Rat) * (pe_sc A (peI s R) (n + 1) : Rat)) := fun j hj => by
    rw [hnM]; unfold pe_cl; rw [if_neg (by omega)]; exact m0 j hj
  have M1 : ∀ i j : Nat, i < n → i ≠ r → j ≤ n → peM (pe_u A n c s) i j = pe_sw n (peM s) R r i j - pe_sw n (peM s) R r i c / pe_sw n (peM s) R r r c * pe_sw n (peM s) R r r j := fun i j hi hir hj => by
    rw [hnM]; unfold pe_cl; rw [if_pos ⟨hi, hir, hj⟩]
  have hlpR := pe_ne_z hlp
  have hpR := pe_ne_z hp
  refine ⟨⟨⟨by omega, by omega, by rw [hnrw, hncl]; exact hH, by rw [hnrw, hnr, List.length_cons, a4], by rw [hncl, hnr, List.length_cons, a5], ?_, ?_⟩, ⟨?_, ?_, ?_⟩, ?_, ?_, ?_, ?_, ?_, ?_, ?_, ?_⟩, hp, E5⟩
  · rw [hncl]
    intro x hx
    rcases List.mem_cons.mp hx with q | q
    · omega
    · have := a6 x q; omega
  · rw [hnrw]
    intro w hw
    rcases List.mem_cons.mp hw with q | q
    · rw [q]; exact fun x => pe_w_le hT hn (g1 R hr)
    · exact a7 w q
  · rw [hnlp, zu_n _ _ (by omega)]; exact b1
  · rw [hnr, hll, hnrw, hncl, ec]; rfl
  · rw [hnr]
    intro k hk
    by_cases q : k = r + 1
    · rw [q, hll]
      refine ⟨hp, ?_⟩
      rw [ec, ← a4]
      exact ba_st_le _ _ _ _ (by rw [a4, a5]) a7 (fun x => pe_w_le hT hn (g1 R hr))
    · rw [hnlp, zu_n _ _ q]
      exact b3 k (by omega)
  · rw [hnr, hnpc, hncs, hncl, hll, hnrw]
    intro i hi
    by_cases q : i = r
    · rw [q, zu_s, zu_s]
      refine ⟨List.mem_cons_self, a1, by omega, rfl, by rw [E4 c (by omega), ec], fun j hj hjc => ?_⟩
      rw [E4 j hj]
      exact ba_new a3 hccl hjc
    · rw [zu_n _ _ q]
      obtain ⟨h1, h2, h3, h4, h5, h6⟩ := c1 i (by omega)
      refine ⟨List.mem_cons_of_mem _ h1, h2, by omega, ?_, E2 i (by omega), fun j hj hjc => E1 i j (by omega) hj hjc⟩
      rw [zu_n _ _ (by have := a6 _ h1; omega)]
      exact h4
  · rw [hnr, hnpi, hnrw, hncl]
    intro i hi hin j hj
    exact E3 i j (by omega) hin hj
  · rw [hnr, hnpi, hncs, hll]
    intro i hi
    by_cases q : i = r
    · rw [q, zu_s, hll, hnlp, zu_n _ _ (by omega), pe_pi_t]
      have e0 : peM (pe_u A n c s) r c = (peE s R c : Rat) / ((peL s r : Rat) * (pe_sc A (peI s R) (n + 1) : Rat)) := by rw [M0 c (by omega), ep]
      refine ⟨e0, fun j hj => ?_⟩
      rw [M0 j hj, e0, E4 j hj, ← t1 j hj]
      exact pe_rf1 (hsc (peI s R)) hlpR hpR
    · rw [zu_n _ _ q, hnlp, zu_n _ _ (by omega), zu_n _ _ (by omega), pe_pi_b q, if_neg (by omega)]
      obtain ⟨h1, h2, h3, h4, h5, h6⟩ := c1 i (by omega)
      have hci := a6 _ h1
      obtain ⟨k1, k2⟩ := e1 i (by omega)
      have key : ∀ j : Nat, j ≤ n → peM (pe_u A n c s) i j = peM s i (peC s i) * ((peE (pe_u A n c s) i j : Rat) / (peE s R c : Rat)) := by
        intro j hj
        have e5 := E5 i j (by omega) q hj
        rw [M1 i j (by omega) q hj, m0 j hj, m0 c (by omega), pe_sw_o (i := i) (by omega) (by omega), pe_sw_o (i := i) (by omega) (by omega), k2 j hj, k2 c (by omega)]
        rw [pe_sw_o (i := i) (by omega) (by omega), pe_sw_o (i := i) (by omega) (by omega), ep] at e5
        rw [ep]
        have e6 : (peL s r : Rat) * (peE (pe_u A n c s) i j : Rat) = (peE s R c : Rat) * (peE s i j : Rat) - (peE s i c : Rat) * ((pe_sw n (peE s) R r r j : Int) : Rat) := by
          rw [← Rat.intCast_mul, ← Rat.intCast_mul, ← Rat.intCast_mul, ← Rat.intCast_sub, e5]
        exact pe_rf2 (hsc (peI s R)) hlpR hpR e6
      have key2 : peM (pe_u A n c s) i (peC s i) = peM s i (peC s i) := by
        rw [key _ (by omega), E2 i (by omega)]
        exact pe_rf3 hpR
      refine ⟨by rw [key2]; exact k1, fun j hj => ?_⟩
      rw [key2]; exact key j hj
  · rw [hnr, hnpi, hll]
    intro i hi hin j hj
    have q : i ≠ r := by omega
    have e5 := E5 i j hin q hj
    rw [ep] at e5
    have e6 : (peL s r : Rat) * (peE (pe_u A n c s) i j : Rat) = (peE s R c : Rat) * ((pe_sw n (peE s) R r i j : Int) : Rat) - ((pe_sw n (peE s) R r i c : Int) : Rat) * ((pe_sw n (peE s) R r r j : Int) : Rat) := by
      rw [← Rat.intCast_mul, ← Rat.intCast_mul, ← Rat.intCast_mul, ← Rat.intCast_sub, e5]
    have m2 : ∀ j : Nat, j ≤ n → pe_sw n (peM s) R r i j = ((pe_sw n (peE s) R r i j : Int) : Rat) / ((peL s r : Rat) * (pe_sc A (pe_pi (peI s) R r i) (n + 1) : Rat)) := fun j hj => by
      rw [pe_sw_b q hj, pe_sw_b q hj, pe_pi_b q]
      exact f1 _ (by split <;> omega) (by split <;> omega) j hj
    rw [M1 i j hin q hj, m0 j hj, m0 c (by omega), m2 j hj, m2 c (by omega), ep]
    exact pe_rf4 (hsc (peI s R)) (hsc _) hlpR hpR e6
  · rw [hnpi]
    intro i hi
    by_cases q : i = r
    · rw [q, pe_pi_t]; exact g1 R hr
    · rw [pe_pi_b q]; exact g1 _ (by split <;> omega)
  · show pe_mt n (peM (pe_u A n c s)) ≤ max (peH s) (pe_mt n (peM (pe_u A n c s)))
    omega
  · rw [hnpc, hnr, hncs]
    intro j hj
    by_cases q : j = c
    · right
      exact ⟨r, by omega, by rw [q, zu_s], by rw [zu_s, q]⟩
    · rw [zu_n _ _ q]
      rcases g3 j (by omega) with h1 | ⟨i, h1, h2, h3⟩
      · exact Or.inl h1
      · exact Or.inr ⟨i, by omega, h2, by rw [zu_n _ _ (by omega)]; exact h3⟩
  · show (if pe_row s n c = peR s then peT s else - peT s) = 1 ∨ (if pe_row s n c = peR s then peT s else - peT s) = -1
    rcases g4 with q | q <;> rw [q] <;> split <;> decide
theorem pe_ok {A : Nat → Rat} {n : Nat} (hT : pe_T A n) (h1 : 1 ≤ n) (hn : n ≤ 6) : ∀ c : Nat, c ≤ n → peV A n c (pe A n c) := by
  intro c
  induction c with
  | zero => intro _; exact peV0 h1
  | succ c ih =>
    intro hc
    have h := ih (by omega)
    by_cases hr : pe_row (pe A n c) n c < n
    · show peV A n (c + 1) (pe_one A n c (pe A n c))
      rw [pe_one_u hr]
      exact (peV_yes hT hn (by omega) h hr).1
    · exact peV_no h hr
/-- a fraction is no larger than any that it stands for -/
theorem pe_lowest {x : Rat} {P Q : Int} (hQ : Q ≠ 0) (h : x = (P : Rat) / (Q : Rat)) : x.num.natAbs ≤ P.natAbs ∧ x.den ≤ Q.natAbs := by
  have hq := pe_ne_z hQ
  have hd := pe_ne_n (Nat.ne_of_gt x.den_pos)
  have e := (Rat.mkRat_eq_div x.num x.den).symm.trans (Rat.mkRat_self _)
  have e2 : x.num * Q = P * (x.den : Int) := by
    refine Rat.intCast_inj.mp ?_
    rw [Rat.intCast_mul, Rat.intCast_mul, show (((x.den : Nat) : Int) : Rat) = (x.den : Rat) from rfl]
    have e3 : (x.num : Rat) / (x.den : Rat) = (P : Rat) / (Q : Rat) := by rw [e, ← h]
    generalize (x.num : Rat) = a at *
    generalize (x.den : Rat) = b at *
    generalize (P : Rat) = p' at *
    generalize (Q : Rat) = q' at *
    grind
  have e4 : x.num.natAbs * Q.natAbs = P.natAbs * x.den := by
    rw [← Int.natAbs_mul, e2, Int.natAbs_mul, Int.natAbs_natCast]
  have hc : Nat.Coprime x.num.natAbs x.den := x.reduced
  have d1 : x.den ∣ Q.natAbs := Nat.Coprime.dvd_of_dvd_mul_left hc.symm (by rw [e4]; exact Nat.dvd_mul_left _ _)
  have hQ0 : 0 < Q.natAbs := Int.natAbs_pos.mpr hQ
  refine ⟨?_, Nat.le_of_dvd hQ0 d1⟩
  by_cases hP : P.natAbs = 0
  · rw [hP, Nat.zero_mul] at e4
    have := Nat.mul_eq_zero.mp e4
    omega
  · exact Nat.le_of_dvd (by omega) (Nat.Coprime.dvd_of_dvd_mul_right hc (by rw [← e4]; exact Nat.dvd_mul_right _ _))
theorem pe_B_pos : ∀ k : Nat, 0 < pe_B k := by
  intro k
  induction k with
  | zero => exact Nat.one_pos
  | succ k ih => exact Nat.mul_pos (Nat.succ_pos k) (Nat.mul_pos (by decide) ih)
theorem pe_B_le {a b : Nat} (h : a ≤ b) : pe_B a ≤ pe_B b := by
  induction b with
  | zero => rw [Nat.le_zero.mp h]; exact Nat.le_refl _
  | succ b ih =>
    by_cases q : a = b + 1
    · rw [q]; exact Nat.le_refl _
    · refine Nat.le_trans (ih (by omega)) ?_
      show pe_B b ≤ (b + 1) * (2147483648 ^ 7 * pe_B b)
      rw [← Nat.mul_assoc]
      exact Nat.le_mul_of_pos_left _ (Nat.mul_pos (Nat.succ_pos b) (by decide))
/-- sizes of the whole entries -/
theorem peV_E {A : Nat → Rat} {n c : Nat} {s : peS} (hT : pe_T A n) (hn : n ≤ 6) (h : peV A n c s) {i j : Nat} (hi : i < n) (hj : j ≤ n) : (peE s i j).natAbs ≤ 7 * pe_B (if i < peR s then peR s else peR s + 1) := by
  obtain ⟨⟨a1, a2, a3, a4, a5, a6, a7⟩, ⟨b1, b2, b3⟩, c1, d1, e1, f1, g1, g2, g3, g4⟩ := h
  by_cases q : i < peR s
  · rw [if_pos q]
    obtain ⟨h1, h2, h3, h4, h5, h6⟩ := c1 i q
    by_cases w : j = peC s i
    · rw [w, h5]
      have := (b3 _ (Nat.le_refl _)).2
      omega
    · rw [h6 j hj w, Int.natAbs_neg]
      have := ba_ind_le (peW s) (peK s) (peC s i) j (by rw [a4, a5]) a7
      rw [a4] at this
      exact Nat.le_trans this (Nat.mul_le_mul_right _ (by omega))
  · rw [if_neg q, d1 i (by omega) hi j hj]
    have := ba_st_le (peW s) (peK s) (pe_w A n (peI s i)) j (by rw [a4, a5]) a7 (fun x => pe_w_le hT hn (g1 i hi))
    rw [a4] at this
    omega
theorem pe_sc7 {A : Nat → Rat} {n i : Nat} (h : pe_T A n) (hi : i < n) (hn : n ≤ 6) : pe_sc A i (n + 1) ≤ 2147483648 ^ 7 := Nat.le_trans (pe_sc_le h hi (n + 1) (Nat.le_refl _)) (Nat.pow_le_pow_right (by decide) (by omega))
/-- the numbers that a cell is the ratio of -/
theorem peV_M {A : Nat → Rat} {n c : Nat} {s : peS} (hT : pe_T A n) (hn : n ≤ 6) (h : peV A n c s) {i j : Nat} (hi : i < n) (hj : j ≤ n) : (peM s i j).num.natAbs ≤ pe_B 6 * (7 * pe_B 6) ∧ (peM s i j).den ≤ pe_B 6 * pe_B 6 := by
  have hE := peV_E hT hn h hi hj
  obtain ⟨⟨a1, a2, a3, a4, a5, a6, a7⟩, ⟨b1, b2, b3⟩, c1, d1, e1, f1, g1, g2, g3, g4⟩ := h
  have hs := pe_sc7 hT (g1 i hi) hn
  have hs0 := pe_sc_pos A (peI s i) (n + 1)
  have B6 := fun k => pe_B_le (a := k) (b := 6)
  have hl := b3 (peR s) (Nat.le_refl _)
  have hB : pe_B 5 * 2147483648 ^ 7 ≤ pe_B 6 := by decide +kernel
  by_cases q : i < peR s
  · rw [if_pos q] at hE
    obtain ⟨k1, k2⟩ := e1 i q
    have l1 := b3 i (by omega)
    have l2 := b3 (i + 1) (by omega)
    have e : peM s i j = ((peL s (i + 1) * peE s i j : Int) : Rat) / ((peL s i * (pe_sc A (peI s i) (n + 1) : Int) * peL s (peR s) : Int) : Rat) := by
      rw [k2 j hj, k1, Rat.intCast_mul, Rat.intCast_mul, Rat.intCast_mul, show (((pe_sc A (peI s i) (n + 1) : Nat) : Int) : Rat) = (pe_sc A (peI s i) (n + 1) : Rat) from rfl]
      have h1 := pe_ne_z l1.1
      have h2 := pe_ne_z hl.1
      have h3 := pe_ne_n (Nat.ne_of_gt hs0)
      generalize (peL s (i + 1) : Rat) = y1 at *
      generalize (peL s i : Rat) = y2 at *
      generalize (peL s (peR s) : Rat) = y3 at *
      generalize (peE s i j : Rat) = y4 at *
      generalize (pe_sc A (peI s i) (n + 1) : Rat) = y5 at *
      grind
    have r := pe_lowest (Int.mul_ne_zero (Int.mul_ne_zero l1.1 (by omega)) hl.1) e
    rw [Int.natAbs_mul, Int.natAbs_mul, Int.natAbs_mul, Int.natAbs_natCast] at r
    refine ⟨Nat.le_trans r.1 (Nat.mul_le_mul (Nat.le_trans l2.2 (B6 _ (by omega))) (Nat.le_trans hE (Nat.mul_le_mul_left _ (B6 _ (by omega))))), Nat.le_trans r.2 (Nat.mul_le_mul (Nat.le_trans (Nat.mul_le_mul l1.2 hs) (Nat.le_trans (Nat.mul_le_mul_right _ (pe_B_le (show i ≤ 5 by omega))) hB)) (Nat.le_trans hl.2 (B6 _ (by omega))))⟩
  · rw [if_neg q] at hE
    have e : peM s i j = (peE s i j : Rat) / ((peL s (peR s) * (pe_sc A (peI s i) (n + 1) : Int) : Int) : Rat) := by
      rw [f1 i (by omega) hi j hj, Rat.intCast_mul]; rfl
    have r := pe_lowest (Int.mul_ne_zero hl.1 (by omega)) e
    rw [Int.natAbs_mul, Int.natAbs_natCast] at r
    refine ⟨Nat.le_trans r.1 (Nat.le_trans (Nat.le_trans hE (Nat.mul_le_mul_left _ (B6 _ (by omega)))) (Nat.le_mul_of_pos_left _ (pe_B_pos 6))), Nat.le_trans r.2 (Nat.le_trans (Nat.mul_le_mul hl.2 hs) (Nat.le_trans (Nat.mul_le_mul_right _ (pe_B_le (show peR s ≤ 5 by omega))) (Nat.le_trans hB (Nat.le_mul_of_pos_left _ (pe_B_pos 6)))))⟩
/-- the unknown of a pivot -/
theorem peV_x {A : Nat → Rat} {n c : Nat} {s : peS} (hT : pe_T A n) (hn : n ≤ 6) (h : peV A n c s) {i : Nat} (hi : i < peR s) : peM s i n / peM s i (peC s i) = (peE s i n : Rat) / (peL s (peR s) : Rat) ∧ peM s i (peC s i) ≠ 0 ∧ peL s (peR s) ≠ 0 ∧ (peM s i n / peM s i (peC s i)).num.natAbs ≤ 7 * pe_B 6 ∧ (peM s i n / peM s i (peC s i)).den ≤ pe_B 6 := by
  have hin : i < n := by have := h.1.2.1; omega
  have hE := peV_E hT hn h hin (Nat.le_refl n)
  rw [if_pos hi] at hE
  obtain ⟨⟨a1, a2, a3, a4, a5, a6, a7⟩, ⟨b1, b2, b3⟩, c1, d1, e1, f1, g1, g2, g3, g4⟩ := h
  obtain ⟨k1, k2⟩ := e1 i hi
  have l1 := b3 i (by omega)
  have l2 := b3 (i + 1) (by omega)
  have hl := b3 (peR s) (Nat.le_refl _)
  have hm : peM s i (peC s i) ≠ 0 := by
    rw [k1]
    have h1 := pe_ne_z l1.1
    have h2 := pe_ne_z l2.1
    have h3 := pe_ne_n (Nat.ne_of_gt (pe_sc_pos A (peI s i) (n + 1)))
    intro q
    generalize (peL s (i + 1) : Rat) = y1 at *
    generalize (peL s i : Rat) = y2 at *
    generalize (pe_sc A (peI s i) (n + 1) : Rat) = y5 at *
    grind
  have e : peM s i n / peM s i (peC s i) = (peE s i n : Rat) / (peL s (peR s) : Rat) := by
    rw [k2 n (Nat.le_refl n)]
    generalize peM s i (peC s i) = y1 at *
    generalize (peE s i n : Rat) / (peL s (peR s) : Rat) = y2 at *
    grind
  have r := pe_lowest hl.1 e
  have B6 := pe_B_le (a := peR s) (b := 6) (by omega)
  exact ⟨e, hm, hl.1, by omega, by omega⟩
/-- the product of the pivots -/
def pe_dt (M : Nat → Nat → Rat) (t : Int) : Nat → Rat
  | 0 => (t : Rat)
  | k + 1 => pe_dt M t k * M k k
def pe_ss (A : Nat → Rat) (n : Nat) (f : Nat → Nat) : Nat → Nat
  | 0 => 1
  | k + 1 => pe_ss A n f k * pe_sc A (f k) (n + 1)
theorem pe_ss_pos (A : Nat → Rat) (n : Nat) (f : Nat → Nat) : ∀ k : Nat, 0 < pe_ss A n f k := by
  intro k
  induction k with
  | zero => exact Nat.one_pos
  | succ k ih => exact Nat.mul_pos ih (pe_sc_pos _ _ _)
theorem pe_ss_le {A : Nat → Rat} {n : Nat} {f : Nat → Nat} (hT : pe_T A n) (hn : n ≤ 6) (hf : ∀ i : Nat, i < n → f i < n) : ∀ k : Nat, k ≤ n → pe_ss A n f k ≤ (2147483648 ^ 7) ^ k := by
  intro k
  induction k with
  | zero => intro _; exact Nat.le_refl 1
  | succ k ih =>
    intro hk
    rw [Nat.pow_succ]
    exact Nat.mul_le_mul (ih (by omega)) (pe_sc7 hT (hf k (by omega)) hn)
theorem peV_dt {A : Nat → Rat} {n : Nat} {s : peS} (hT : pe_T A n) (hn : n ≤ 6) (h : peV A n n s) (hr : peR s = n) : ∀ k : Nat, k ≤ n → pe_dt (peM s) (peT s) k = ((peT s * peL s k : Int) : Rat) / ((pe_ss A n (peI s) k : Int) : Rat) ∧ (pe_dt (peM s) (peT s) k).num.natAbs ≤ pe_B 6 ∧ (pe_dt (peM s) (peT s) k).den ≤ pe_B 6 := by
  obtain ⟨⟨a1, a2, a3, a4, a5, a6, a7⟩, ⟨b1, b2, b3⟩, c1, d1, e1, f1, g1, g2, g3, g4⟩ := h
  have key : ∀ k : Nat, k ≤ n → pe_dt (peM s) (peT s) k = ((peT s * peL s k : Int) : Rat) / ((pe_ss A n (peI s) k : Int) : Rat) := by
    intro k
    induction k with
    | zero =>
      intro _
      rw [b1, Int.mul_one]
      show (peT s : Rat) = (peT s : Rat) / (((1 : Nat) : Int) : Rat)
      rw [show ((((1 : Nat) : Int)) : Rat) = 1 from rfl]
      grind
    | succ k ih =>
      intro hk
      have c2 := c1 k (by omega)
      have ek : peC s k = k := by omega
      have k1 := (e1 k (by omega)).1
      rw [ek] at k1
      show pe_dt (peM s) (peT s) k * peM s k k = _
      rw [ih (by omega), k1]
      show _ = _ / (((pe_ss A n (peI s) k * pe_sc A (peI s k) (n + 1) : Nat) : Int) : Rat)
      rw [Int.natCast_mul, Rat.intCast_mul, Rat.intCast_mul, Rat.intCast_mul, show (((pe_sc A (peI s k) (n + 1) : Nat) : Int) : Rat) = (pe_sc A (peI s k) (n + 1) : Rat) from rfl]
      have h1 := pe_ne_z (b3 k (by omega)).1
      have h3 := pe_ne_n (Nat.ne_of_gt (pe_sc_pos A (peI s k) (n + 1)))
      have h4 := pe_ne_n (Nat.ne_of_gt (pe_ss_pos A n (peI s) k))
      have h5 : (((pe_ss A n (peI s) k : Nat) : Int) : Rat) = (pe_ss A n (peI s) k : Rat) := rfl
      rw [h5]
      generalize (peL s (k + 1) : Rat) = y1 at *
      generalize (peL s k : Rat) = y2 at *
      generalize (pe_sc A (peI s k) (n + 1) : Rat) = y3 at *
      generalize (pe_ss A n (peI s) k : Rat) = y4 at *
      generalize (peT s : Rat) = y5 at *
      grind
  intro k hk
  have e := key k hk
  have hp := pe_ss_pos A n (peI s) k
  have r := pe_lowest (by omega) e
  have hl := b3 k (by omega)
  have B6 := pe_B_le (a := k) (b := 6) (by omega)
  have hS := pe_ss_le hT hn g1 k hk
  have hS2 : (2147483648 ^ 7) ^ k ≤ (2147483648 ^ 7) ^ 6 := Nat.pow_le_pow_right (by decide) (by omega)
  have hS3 : (2147483648 ^ 7) ^ 6 ≤ pe_B 6 := by decide +kernel
  have ht : (peT s * peL s k).natAbs = (peL s k).natAbs := by
    rw [Int.natAbs_mul]
    rcases g4 with q | q <;> rw [q] <;> simp
  rw [ht, Int.natAbs_natCast] at r
  generalize (2147483648 ^ 7) ^ k = T1 at *
  generalize (2147483648 ^ 7) ^ 6 = T2 at *
  exact ⟨e, by omega, by omega⟩
