/-! NUMBERS TO THE BASE 65536: digits d 0, d 1, .. ; the value of the first n of them -/
abbrev hx_B : Int := 65536
def hx_p (n : Nat) : Int := (65536 : Int) ^ n
theorem hx_p0 : hx_p 0 = 1 := rfl
theorem hx_ps (n : Nat) : hx_p (n + 1) = 65536 * hx_p n := by
  show (65536 : Int) ^ (n + 1) = _ * (65536 : Int) ^ n
  rw [Int.pow_succ, Int.mul_comm]
theorem hx_p_pos : ∀ n : Nat, 0 < hx_p n := by
  intro n
  induction n with
  | zero => decide
  | succ n ih => rw [hx_ps]; omega
theorem hx_p_add (a : Nat) : ∀ b : Nat, hx_p (a + b) = hx_p a * hx_p b := by
  intro b
  show (65536 : Int) ^ (a + b) = (65536 : Int) ^ a * (65536 : Int) ^ b
  exact Int.pow_add ..
theorem hx_p_le {a b : Nat} (h : a ≤ b) : hx_p a ≤ hx_p b := by
  obtain ⟨k, rfl⟩ : ∃ k, b = a + k := ⟨b - a, by omega⟩
  clear h
  induction k with
  | zero => exact Int.le_refl _
  | succ k ih =>
    have h1 := hx_p_pos (a + k)
    have h2 : hx_p (a + (k + 1)) = 65536 * hx_p (a + k) := hx_ps (a + k)
    omega
def hx_val (d : Nat → Int) : Nat → Int
  | 0 => 0
  | n + 1 => hx_val d n + d n * hx_p n
theorem hx_v0 (d : Nat → Int) : hx_val d 0 = 0 := rfl
theorem hx_vs (d : Nat → Int) (n : Nat) : hx_val d (n + 1) = hx_val d n + d n * hx_p n := rfl
/-- the first n are digits -/
def hx_dg (d : Nat → Int) (n : Nat) : Prop := ∀ i, i < n → 0 ≤ d i ∧ d i < 65536
theorem hx_dg_le {d : Nat → Int} {n m : Nat} (h : hx_dg d n) (hm : m ≤ n) : hx_dg d m := fun i hi => h i (by omega)
theorem hx_val_congr {d e : Nat → Int} : ∀ {n : Nat}, (∀ i, i < n → d i = e i) → hx_val d n = hx_val e n := by
  intro n
  induction n with
  | zero => intro _; rfl
  | succ n ih =>
    intro h
    rw [hx_vs, hx_vs, ih (fun i hi => h i (Nat.lt_succ_of_lt hi)), h n (Nat.lt_succ_self n)]
theorem hx_val_nn {d : Nat → Int} : ∀ {n : Nat}, hx_dg d n → 0 ≤ hx_val d n := by
  intro n
  induction n with
  | zero => intro _; exact Int.le_refl 0
  | succ n ih =>
    intro h
    have h1 := ih (hx_dg_le h (Nat.le_succ n))
    have h2 : 0 ≤ d n * hx_p n := Int.mul_nonneg (h n (Nat.lt_succ_self n)).1 (Int.le_of_lt (hx_p_pos n))
    rw [hx_vs]
    omega
theorem hx_val_lt {d : Nat → Int} : ∀ {n : Nat}, hx_dg d n → hx_val d n < hx_p n := by
  intro n
  induction n with
  | zero => intro _; rw [hx_v0, hx_p0]; decide
  | succ n ih =>
    intro h
    have h1 := ih (hx_dg_le h (Nat.le_succ n))
    have h2 := (h n (Nat.lt_succ_self n)).2
    have h3 : (d n + 1) * hx_p n ≤ 65536 * hx_p n := Int.mul_le_mul_of_nonneg_right (by omega) (Int.le_of_lt (hx_p_pos n))
    rw [hx_vs, hx_ps]
    rw [Int.add_mul, Int.one_mul] at h3
    omega
/-- the number of digits without the zeros above -/
def hx_trim (d : Nat → Int) : Nat → Nat
  | 0 => 0
  | n + 1 => if d n = 0 then hx_trim d n else n + 1
theorem hx_trim_s0 {d : Nat → Int} {n : Nat} (h : d n = 0) : hx_trim d (n + 1) = hx_trim d n := by
  show (if d n = 0 then hx_trim d n else n + 1) = _
  rw [if_pos h]
theorem hx_trim_s1 {d : Nat → Int} {n : Nat} (h : d n ≠ 0) : hx_trim d (n + 1) = n + 1 := by
  show (if d n = 0 then hx_trim d n else n + 1) = _
  rw [if_neg h]
theorem hx_trim_le (d : Nat → Int) : ∀ n, hx_trim d n ≤ n := by
  intro n
  induction n with
  | zero => exact Nat.le_refl 0
  | succ n ih =>
    by_cases h : d n = 0
    · rw [hx_trim_s0 h]; omega
    · rw [hx_trim_s1 h]; omega
theorem hx_trim_val (d : Nat → Int) : ∀ n, hx_val d (hx_trim d n) = hx_val d n := by
  intro n
  induction n with
  | zero => rfl
  | succ n ih =>
    by_cases h : d n = 0
    · rw [hx_trim_s0 h, ih, hx_vs, h, Int.zero_mul, Int.add_zero]
    · rw [hx_trim_s1 h]
def hx_can (d : Nat → Int) (n : Nat) : Prop := 0 < n → d (n - 1) ≠ 0
theorem hx_trim_can (d : Nat → Int) : ∀ n, hx_can d (hx_trim d n) := by
  intro n
  induction n with
  | zero => intro h; exact absurd h (Nat.lt_irrefl 0)
  | succ n ih =>
    by_cases h : d n = 0
    · rw [hx_trim_s0 h]; exact ih
    · rw [hx_trim_s1 h]; intro _; exact h
/-- a number without zeros above is at least the power of its top place -/
theorem hx_can_ge {d : Nat → Int} {n : Nat} (hd : hx_dg d (n + 1)) (h : hx_can d (n + 1)) : hx_p n ≤ hx_val d (n + 1) := by
  have h1 : d n ≠ 0 := h (Nat.succ_pos n)
  have h0 := hd n (Nat.lt_succ_self n)
  have h2 : 1 * hx_p n ≤ d n * hx_p n := Int.mul_le_mul_of_nonneg_right (by omega) (Int.le_of_lt (hx_p_pos n))
  have h3 := hx_val_nn (hx_dg_le hd (Nat.le_succ n))
  rw [hx_vs]
  omega
/-- fewer digits, the lesser number -/
theorem hx_lt_cnt {d e : Nat → Int} {n m : Nat} (hd : hx_dg d n) (he : hx_dg e m) (ce : hx_can e m) (h : n < m) : hx_val d n < hx_val e m := by
  obtain ⟨k, rfl⟩ : ∃ k, m = k + 1 := ⟨m - 1, by omega⟩
  have h1 := hx_val_lt hd
  have h2 := hx_can_ge he ce
  have h3 := hx_p_le (show n ≤ k by omega)
  omega
/-- a difference at place i, the same above: it decides -/
theorem hx_lt_digit {d e : Nat → Int} {i : Nat} : ∀ {n : Nat}, hx_dg d n → hx_dg e n → i < n → d i < e i → (∀ j, i < j → j < n → d j = e j) → hx_val d n < hx_val e n := by
  intro n
  induction n with
  | zero => intro _ _ hi; exact absurd hi (Nat.not_lt_zero i)
  | succ n ih =>
    intro hd he hi hlt hsame
    rw [hx_vs, hx_vs]
    rcases Nat.lt_or_ge i n with h | h
    · have h1 := ih (hx_dg_le hd (Nat.le_succ n)) (hx_dg_le he (Nat.le_succ n)) h hlt (fun j a b => hsame j a (Nat.lt_succ_of_lt b))
      rw [hsame n h (Nat.lt_succ_self n)]
      omega
    · have hin : i = n := by omega
      subst hin
      have h1 : hx_val d i < hx_p i := hx_val_lt (hx_dg_le hd (Nat.le_succ i))
      have h2 : (d i + 1) * hx_p i ≤ e i * hx_p i := Int.mul_le_mul_of_nonneg_right (by omega) (Int.le_of_lt (hx_p_pos i))
      have h3 := hx_val_nn (hx_dg_le he (Nat.le_succ i))
      rw [Int.add_mul, Int.one_mul] at h2
      omega
/-- a number has one form -/
theorem hx_can_cnt {d e : Nat → Int} {n m : Nat} (hd : hx_dg d n) (he : hx_dg e m) (cd : hx_can d n) (ce : hx_can e m) (h : hx_val d n = hx_val e m) : n = m := by
  rcases Nat.lt_trichotomy n m with q | q | q
  · have := hx_lt_cnt hd he ce q; omega
  · exact q
  · have := hx_lt_cnt he hd cd q; omega
theorem hx_val_inj {d e : Nat → Int} : ∀ {n : Nat}, hx_dg d n → hx_dg e n → hx_val d n = hx_val e n → ∀ i, i < n → d i = e i := by
  intro n hd he h i hi
  apply Classical.byContradiction
  intro hne
  -- the highest place of a difference
  have key : ∀ k, k ≤ n → (∀ j, k ≤ j → j < n → d j = e j) → ∀ j, j < n → d j = e j := by
    intro k
    induction k with
    | zero => intro _ hs j hj; exact hs j (Nat.zero_le j) hj
    | succ k ih =>
      intro hk hs
      refine ih (Nat.le_of_succ_le hk) ?_
      intro j hkj hj
      rcases Nat.lt_or_ge k j with q | q
      · exact hs j q hj
      · have hjk : j = k := by omega
        subst hjk
        rcases Int.lt_trichotomy (d j) (e j) with c | c | c
        · have := hx_lt_digit hd he hj c (fun x a b => hs x a b); omega
        · exact c
        · have := hx_lt_digit he hd hj c (fun x a b => (hs x a b).symm); omega
  exact hne (key n (Nat.le_refl n) (fun j a b => absurd a (by omega)) i hi)
/-- the digits from place k on -/
theorem hx_val_split (d : Nat → Int) (k : Nat) : ∀ n, hx_val d (k + n) = hx_val d k + hx_p k * hx_val (fun i => d (k + i)) n := by
  intro n
  induction n with
  | zero => show hx_val d k = hx_val d k + hx_p k * 0; rw [Int.mul_zero, Int.add_zero]
  | succ n ih =>
    show hx_val d (k + n) + d (k + n) * hx_p (k + n) = hx_val d k + hx_p k * (hx_val (fun i => d (k + i)) n + d (k + n) * hx_p n)
    rw [ih, hx_p_add, Int.mul_add, Int.add_assoc]
    congr 1
    congr 1
    rw [Int.mul_left_comm]
def hx_at (d : Nat → Int) (n : Nat) (z : Int) : Int := if 0 ≤ z ∧ z < n then d z.toNat else 0
/-! steps of the loops on digits -/
/-- a number by its digits: n of them, in a room, without zeros above -/
def hx_ok (g : Nat → Int) (n room : Nat) (v : Int) : Prop := n ≤ room ∧ hx_dg g n ∧ hx_can g n ∧ hx_val g n = v
theorem hx_ok_nn {g : Nat → Int} {n room : Nat} {v : Int} (h : hx_ok g n room v) : 0 ≤ v := by rw [← h.2.2.2]; exact hx_val_nn h.2.1
theorem hx_ok_lt {g : Nat → Int} {n room : Nat} {v : Int} (h : hx_ok g n room v) : v < hx_p n := by rw [← h.2.2.2]; exact hx_val_lt h.2.1
/-- what is below a power has no more digits -/
theorem hx_ok_cnt {g : Nat → Int} {n room m : Nat} {v : Int} (h : hx_ok g n room v) (hv : v < hx_p m) : n ≤ m := by
  rcases Nat.lt_or_ge m n with q | q
  · obtain ⟨k, rfl⟩ : ∃ k, n = k + 1 := ⟨n - 1, by omega⟩
    have h1 := hx_can_ge h.2.1 h.2.2.1
    have h2 := hx_p_le (show m ≤ k by omega)
    have h3 := h.2.2.2
    omega
  · exact q
theorem hx_ok_zero {g : Nat → Int} {n room : Nat} {v : Int} (h : hx_ok g n room v) : v = 0 ↔ n = 0 := by
  constructor
  · intro hv
    have := hx_ok_cnt h (m := 0) (by rw [hx_p0]; omega)
    omega
  · intro hn
    subst hn
    rw [← h.2.2.2]
    rfl
theorem hx_ok_trim {g : Nat → Int} {n room : Nat} (hn : n ≤ room) (hd : hx_dg g n) : hx_ok g (hx_trim g n) room (hx_val g n) := ⟨Nat.le_trans (hx_trim_le g n) hn, hx_dg_le hd (hx_trim_le g n), hx_trim_can g n, hx_trim_val g n⟩
/-- the digits with zeros above -/
def hx_x (d : Nat → Int) (n : Nat) : Nat → Int := fun i => if i < n then d i else 0
theorem hx_x_dg {d : Nat → Int} {n : Nat} (h : hx_dg d n) (m : Nat) : hx_dg (hx_x d n) m := by
  intro i _
  unfold hx_x
  split
  · rename_i q; exact h i q
  · exact ⟨by omega, by omega⟩
theorem hx_x_val (d : Nat → Int) (n : Nat) : ∀ m : Nat, n ≤ m → hx_val (hx_x d n) m = hx_val d n := by
  intro m hm
  induction m with
  | zero =>
    have : n = 0 := by omega
    subst this; rfl
  | succ m ih =>
    rcases Nat.lt_or_ge m n with q | q
    · have : n = m + 1 := by omega
      subst this
      exact hx_val_congr (fun i hi => if_pos hi)
    · rw [hx_vs, ih q]
      have : hx_x d n m = 0 := if_neg (by omega)
      rw [this, Int.zero_mul, Int.add_zero]
theorem hx_x_le (d : Nat → Int) (n : Nat) : ∀ m : Nat, m ≤ n → hx_val (hx_x d n) m = hx_val d m := fun m hm => hx_val_congr (fun i hi => if_pos (by omega))
theorem hx_at_x (d : Nat → Int) (n i : Nat) : hx_at d n (i : Int) = hx_x d n i := by
  unfold hx_at hx_x
  by_cases h : i < n
  · rw [if_pos h, if_pos ⟨by omega, by omega⟩]; rfl
  · rw [if_neg h, if_neg (by omega)]
theorem hx_zu_lo {d : Nat → Int} {k : Nat} {x : Int} : ∀ {n : Nat}, n ≤ k → hx_val (zu d k x) n = hx_val d n := fun h => hx_val_congr (fun i hi => zu_n d x (by omega))
theorem hx_zu_val {d : Nat → Int} {k : Nat} {x : Int} : ∀ {n : Nat}, k < n → hx_val (zu d k x) n = hx_val d n + (x - d k) * hx_p k := by
  intro n
  induction n with
  | zero => intro h; exact absurd h (Nat.not_lt_zero k)
  | succ n ih =>
    intro h
    rw [hx_vs, hx_vs]
    rcases Nat.lt_or_ge k n with q | q
    · rw [ih q, zu_n d x (by omega)]; omega
    · have : k = n := by omega
      subst this
      rw [hx_zu_lo (Nat.le_refl k), zu_s, Int.sub_mul]
      omega
theorem hx_zu_dg {d : Nat → Int} {k n : Nat} {x : Int} (h : hx_dg d n) (hx : 0 ≤ x ∧ x < 65536) : hx_dg (zu d k x) n := by
  intro i hi
  by_cases q : i = k
  · subst q; rw [zu_s]; exact hx
  · rw [zu_n d x q]; exact h i hi
theorem hx_zu_dgs {d : Nat → Int} {k : Nat} {x : Int} (h : hx_dg d k) (hx : 0 ≤ x ∧ x < 65536) : hx_dg (zu d k x) (k + 1) := by
  intro i hi
  by_cases q : i = k
  · subst q; rw [zu_s]; exact hx
  · rw [zu_n d x q]; exact h i (by omega)
theorem hx_mod (t : Int) : 0 ≤ t % 65536 ∧ t % 65536 < 65536 := by omega
theorem hx_carry (t P : Int) : (t % 65536) * P + (t / 65536) * (65536 * P) = t * P := by
  have h : t % 65536 + 65536 * (t / 65536) = t := Int.emod_add_mul_ediv t 65536
  have e : (t / 65536) * (65536 * P) = (65536 * (t / 65536)) * P := by rw [← Int.mul_assoc, Int.mul_comm (t / 65536)]
  rw [e, ← Int.add_mul, h]
/-- one place of a sum of a lower part V, its carry c, and a new digit sum x: g i becomes the low part of c + x -/
theorem hx_step {g : Nat → Int} {i : Nat} {c x V : Int} (h : hx_val g i + c * hx_p i = V) : hx_val (zu g i ((c + x) % 65536)) (i + 1) + ((c + x) / 65536) * hx_p (i + 1) = V + x * hx_p i := by
  rw [hx_vs, zu_s, hx_zu_lo (Nat.le_refl i), hx_ps, Int.add_assoc, hx_carry, Int.add_mul, ← h]
  omega
theorem hx_zu_hi {g : Nat → Int} {i j : Nat} {x : Int} (h : i < j) : zu g i x j = g j := zu_n g x (by omega)
