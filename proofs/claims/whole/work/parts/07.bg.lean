/-! NUMBERS TO THE BASE 2^31: digits d 0, d 1, .. ; the value of the first n of them -/
abbrev bg_B : Int := 2147483648
def bg_p (n : Nat) : Int := (2147483648 : Int) ^ n
theorem bg_p0 : bg_p 0 = 1 := rfl
theorem bg_ps (n : Nat) : bg_p (n + 1) = 2147483648 * bg_p n := by
  show (2147483648 : Int) ^ (n + 1) = _ * (2147483648 : Int) ^ n
  rw [Int.pow_succ, Int.mul_comm]
theorem bg_p_pos : ∀ n : Nat, 0 < bg_p n := by
  intro n
  induction n with
  | zero => decide
  | succ n ih => rw [bg_ps]; omega
theorem bg_p_add (a : Nat) : ∀ b : Nat, bg_p (a + b) = bg_p a * bg_p b := by
  intro b
  show (2147483648 : Int) ^ (a + b) = (2147483648 : Int) ^ a * (2147483648 : Int) ^ b
  exact Int.pow_add ..
theorem bg_p_le {a b : Nat} (h : a ≤ b) : bg_p a ≤ bg_p b := by
  obtain ⟨k, rfl⟩ : ∃ k, b = a + k := ⟨b - a, by omega⟩
  clear h
  induction k with
  | zero => exact Int.le_refl _
  | succ k ih =>
    have h1 := bg_p_pos (a + k)
    have h2 : bg_p (a + (k + 1)) = 2147483648 * bg_p (a + k) := bg_ps (a + k)
    omega
def bg_val (d : Nat → Int) : Nat → Int
  | 0 => 0
  | n + 1 => bg_val d n + d n * bg_p n
theorem bg_v0 (d : Nat → Int) : bg_val d 0 = 0 := rfl
theorem bg_vs (d : Nat → Int) (n : Nat) : bg_val d (n + 1) = bg_val d n + d n * bg_p n := rfl
/-- the first n are digits -/
def bg_dg (d : Nat → Int) (n : Nat) : Prop := ∀ i, i < n → 0 ≤ d i ∧ d i < 2147483648
theorem bg_dg_le {d : Nat → Int} {n m : Nat} (h : bg_dg d n) (hm : m ≤ n) : bg_dg d m := fun i hi => h i (by omega)
theorem bg_val_congr {d e : Nat → Int} : ∀ {n : Nat}, (∀ i, i < n → d i = e i) → bg_val d n = bg_val e n := by
  intro n
  induction n with
  | zero => intro _; rfl
  | succ n ih =>
    intro h
    rw [bg_vs, bg_vs, ih (fun i hi => h i (Nat.lt_succ_of_lt hi)), h n (Nat.lt_succ_self n)]
theorem bg_val_nn {d : Nat → Int} : ∀ {n : Nat}, bg_dg d n → 0 ≤ bg_val d n := by
  intro n
  induction n with
  | zero => intro _; exact Int.le_refl 0
  | succ n ih =>
    intro h
    have h1 := ih (bg_dg_le h (Nat.le_succ n))
    have h2 : 0 ≤ d n * bg_p n := Int.mul_nonneg (h n (Nat.lt_succ_self n)).1 (Int.le_of_lt (bg_p_pos n))
    rw [bg_vs]
    omega
theorem bg_val_lt {d : Nat → Int} : ∀ {n : Nat}, bg_dg d n → bg_val d n < bg_p n := by
  intro n
  induction n with
  | zero => intro _; rw [bg_v0, bg_p0]; decide
  | succ n ih =>
    intro h
    have h1 := ih (bg_dg_le h (Nat.le_succ n))
    have h2 := (h n (Nat.lt_succ_self n)).2
    have h3 : (d n + 1) * bg_p n ≤ 2147483648 * bg_p n := Int.mul_le_mul_of_nonneg_right (by omega) (Int.le_of_lt (bg_p_pos n))
    rw [bg_vs, bg_ps]
    rw [Int.add_mul, Int.one_mul] at h3
    omega
/-- the number of digits without the zeros above -/
def bg_trim (d : Nat → Int) : Nat → Nat
  | 0 => 0
  | n + 1 => if d n = 0 then bg_trim d n else n + 1
theorem bg_trim_s0 {d : Nat → Int} {n : Nat} (h : d n = 0) : bg_trim d (n + 1) = bg_trim d n := by
  show (if d n = 0 then bg_trim d n else n + 1) = _
  rw [if_pos h]
theorem bg_trim_s1 {d : Nat → Int} {n : Nat} (h : d n ≠ 0) : bg_trim d (n + 1) = n + 1 := by
  show (if d n = 0 then bg_trim d n else n + 1) = _
  rw [if_neg h]
theorem bg_trim_le (d : Nat → Int) : ∀ n, bg_trim d n ≤ n := by
  intro n
  induction n with
  | zero => exact Nat.le_refl 0
  | succ n ih =>
    by_cases h : d n = 0
    · rw [bg_trim_s0 h]; omega
    · rw [bg_trim_s1 h]; omega
theorem bg_trim_val (d : Nat → Int) : ∀ n, bg_val d (bg_trim d n) = bg_val d n := by
  intro n
  induction n with
  | zero => rfl
  | succ n ih =>
    by_cases h : d n = 0
    · rw [bg_trim_s0 h, ih, bg_vs, h, Int.zero_mul, Int.add_zero]
    · rw [bg_trim_s1 h]
def bg_can (d : Nat → Int) (n : Nat) : Prop := 0 < n → d (n - 1) ≠ 0
theorem bg_trim_can (d : Nat → Int) : ∀ n, bg_can d (bg_trim d n) := by
  intro n
  induction n with
  | zero => intro h; exact absurd h (Nat.lt_irrefl 0)
  | succ n ih =>
    by_cases h : d n = 0
    · rw [bg_trim_s0 h]; exact ih
    · rw [bg_trim_s1 h]; intro _; exact h
/-- a number without zeros above is at least the power of its top place -/
theorem bg_can_ge {d : Nat → Int} {n : Nat} (hd : bg_dg d (n + 1)) (h : bg_can d (n + 1)) : bg_p n ≤ bg_val d (n + 1) := by
  have h1 : d n ≠ 0 := h (Nat.succ_pos n)
  have h0 := hd n (Nat.lt_succ_self n)
  have h2 : 1 * bg_p n ≤ d n * bg_p n := Int.mul_le_mul_of_nonneg_right (by omega) (Int.le_of_lt (bg_p_pos n))
  have h3 := bg_val_nn (bg_dg_le hd (Nat.le_succ n))
  rw [bg_vs]
  omega
/-- fewer digits, the lesser number -/
theorem bg_lt_cnt {d e : Nat → Int} {n m : Nat} (hd : bg_dg d n) (he : bg_dg e m) (ce : bg_can e m) (h : n < m) : bg_val d n < bg_val e m := by
  obtain ⟨k, rfl⟩ : ∃ k, m = k + 1 := ⟨m - 1, by omega⟩
  have h1 := bg_val_lt hd
  have h2 := bg_can_ge he ce
  have h3 := bg_p_le (show n ≤ k by omega)
  omega
/-- a difference at place i, the same above: it decides -/
theorem bg_lt_digit {d e : Nat → Int} {i : Nat} : ∀ {n : Nat}, bg_dg d n → bg_dg e n → i < n → d i < e i → (∀ j, i < j → j < n → d j = e j) → bg_val d n < bg_val e n := by
  intro n
  induction n with
  | zero => intro _ _ hi; exact absurd hi (Nat.not_lt_zero i)
  | succ n ih =>
    intro hd he hi hlt hsame
    rw [bg_vs, bg_vs]
    rcases Nat.lt_or_ge i n with h | h
    · have h1 := ih (bg_dg_le hd (Nat.le_succ n)) (bg_dg_le he (Nat.le_succ n)) h hlt (fun j a b => hsame j a (Nat.lt_succ_of_lt b))
      rw [hsame n h (Nat.lt_succ_self n)]
      omega
    · have hin : i = n := by omega
      subst hin
      have h1 : bg_val d i < bg_p i := bg_val_lt (bg_dg_le hd (Nat.le_succ i))
      have h2 : (d i + 1) * bg_p i ≤ e i * bg_p i := Int.mul_le_mul_of_nonneg_right (by omega) (Int.le_of_lt (bg_p_pos i))
      have h3 := bg_val_nn (bg_dg_le he (Nat.le_succ i))
      rw [Int.add_mul, Int.one_mul] at h2
      omega
/-- a number has one form -/
theorem bg_can_cnt {d e : Nat → Int} {n m : Nat} (hd : bg_dg d n) (he : bg_dg e m) (cd : bg_can d n) (ce : bg_can e m) (h : bg_val d n = bg_val e m) : n = m := by
  rcases Nat.lt_trichotomy n m with q | q | q
  · have := bg_lt_cnt hd he ce q; omega
  · exact q
  · have := bg_lt_cnt he hd cd q; omega
theorem bg_val_inj {d e : Nat → Int} : ∀ {n : Nat}, bg_dg d n → bg_dg e n → bg_val d n = bg_val e n → ∀ i, i < n → d i = e i := by
  intro n hd he h i hi
  apply Classical.byContradiction
  intro hne
  -- the highest place of a difference
  have key : ∀ k, k ≤ n → (∀ j, k ≤ j → j < n → d j = e j) → ∀ j, j < n → d j = e j := by
    intro k
    induction k with
    | zero => intro _ hs j hj; exact hs j (Nat.zero_le j) hj
    | succ k ih =>
      intro hk hs
      refine ih (Nat.le_of_succ_le hk) ?_
      intro j hkj hj
      rcases Nat.lt_or_ge k j with q | q
      · exact hs j q hj
      · have hjk : j = k := by omega
        subst hjk
        rcases Int.lt_trichotomy (d j) (e j) with c | c | c
        · have := bg_lt_digit hd he hj c (fun x a b => hs x a b); omega
        · exact c
        · have := bg_lt_digit he hd hj c (fun x a b => (hs x a b).symm); omega
  exact hne (key n (Nat.le_refl n) (fun j a b => absurd a (by omega)) i hi)
/-- the digits from place k on -/
theorem bg_val_split (d : Nat → Int) (k : Nat) : ∀ n, bg_val d (k + n) = bg_val d k + bg_p k * bg_val (fun i => d (k + i)) n := by
  intro n
  induction n with
  | zero => show bg_val d k = bg_val d k + bg_p k * 0; rw [Int.mul_zero, Int.add_zero]
  | succ n ih =>
    show bg_val d (k + n) + d (k + n) * bg_p (k + n) = bg_val d k + bg_p k * (bg_val (fun i => d (k + i)) n + d (k + n) * bg_p n)
    rw [ih, bg_p_add, Int.mul_add, Int.add_assoc]
    congr 1
    congr 1
    rw [Int.mul_left_comm]
