def bg_at (d : Nat → Int) (n : Nat) (z : Int) : Int := if 0 ≤ z ∧ z < n then d z.toNat else 0
/-! steps of the loops on digits -/
/-- a number by its digits: n of them, in a room, without zeros above -/
def bg_ok (g : Nat → Int) (n room : Nat) (v : Int) : Prop := n ≤ room ∧ bg_dg g n ∧ bg_can g n ∧ bg_val g n = v
theorem bg_ok_nn {g : Nat → Int} {n room : Nat} {v : Int} (h : bg_ok g n room v) : 0 ≤ v := by rw [← h.2.2.2]; exact bg_val_nn h.2.1
theorem bg_ok_lt {g : Nat → Int} {n room : Nat} {v : Int} (h : bg_ok g n room v) : v < bg_p n := by rw [← h.2.2.2]; exact bg_val_lt h.2.1
/-- what is below a power has no more digits -/
theorem bg_ok_cnt {g : Nat → Int} {n room m : Nat} {v : Int} (h : bg_ok g n room v) (hv : v < bg_p m) : n ≤ m := by
  rcases Nat.lt_or_ge m n with q | q
  · obtain ⟨k, rfl⟩ : ∃ k, n = k + 1 := ⟨n - 1, by omega⟩
    have h1 := bg_can_ge h.2.1 h.2.2.1
    have h2 := bg_p_le (show m ≤ k by omega)
    have h3 := h.2.2.2
    omega
  · exact q
theorem bg_ok_zero {g : Nat → Int} {n room : Nat} {v : Int} (h : bg_ok g n room v) : v = 0 ↔ n = 0 := by
  constructor
  · intro hv
    have := bg_ok_cnt h (m := 0) (by rw [bg_p0]; omega)
    omega
  · intro hn
    subst hn
    rw [← h.2.2.2]
    rfl
theorem bg_ok_trim {g : Nat → Int} {n room : Nat} (hn : n ≤ room) (hd : bg_dg g n) : bg_ok g (bg_trim g n) room (bg_val g n) := ⟨Nat.le_trans (bg_trim_le g n) hn, bg_dg_le hd (bg_trim_le g n), bg_trim_can g n, bg_trim_val g n⟩
/-- the digits with zeros above -/
def bg_x (d : Nat → Int) (n : Nat) : Nat → Int := fun i => if i < n then d i else 0
theorem bg_x_dg {d : Nat → Int} {n : Nat} (h : bg_dg d n) (m : Nat) : bg_dg (bg_x d n) m := by
  intro i _
  unfold bg_x
  split
  · rename_i q; exact h i q
  · exact ⟨by omega, by omega⟩
theorem bg_x_val (d : Nat → Int) (n : Nat) : ∀ m : Nat, n ≤ m → bg_val (bg_x d n) m = bg_val d n := by
  intro m hm
  induction m with
  | zero =>
    have : n = 0 := by omega
    subst this; rfl
  | succ m ih =>
    rcases Nat.lt_or_ge m n with q | q
    · have : n = m + 1 := by omega
      subst this
      exact bg_val_congr (fun i hi => if_pos hi)
    · rw [bg_vs, ih q]
      have : bg_x d n m = 0 := if_neg (by omega)
      rw [this, Int.zero_mul, Int.add_zero]
theorem bg_x_le (d : Nat → Int) (n : Nat) : ∀ m : Nat, m ≤ n → bg_val (bg_x d n) m = bg_val d m := fun m hm => bg_val_congr (fun i hi => if_pos (by omega))
theorem bg_at_x (d : Nat → Int) (n i : Nat) : bg_at d n (i : Int) = bg_x d n i := by
  unfold bg_at bg_x
  by_cases h : i < n
  · rw [if_pos h, if_pos ⟨by omega, by omega⟩]; rfl
  · rw [if_neg h, if_neg (by omega)]
theorem bg_zu_lo {d : Nat → Int} {k : Nat} {x : Int} : ∀ {n : Nat}, n ≤ k → bg_val (zu d k x) n = bg_val d n := fun h => bg_val_congr (fun i hi => zu_n d x (by omega))
theorem bg_zu_val {d : Nat → Int} {k : Nat} {x : Int} : ∀ {n : Nat}, k < n → bg_val (zu d k x) n = bg_val d n + (x - d k) * bg_p k := by
  intro n
  induction n with
  | zero => intro h; exact absurd h (Nat.not_lt_zero k)
  | succ n ih =>
    intro h
    rw [bg_vs, bg_vs]
    rcases Nat.lt_or_ge k n with q | q
    · rw [ih q, zu_n d x (by omega)]; omega
    · have : k = n := by omega
      subst this
      rw [bg_zu_lo (Nat.le_refl k), zu_s, Int.sub_mul]
      omega
theorem bg_zu_dg {d : Nat → Int} {k n : Nat} {x : Int} (h : bg_dg d n) (hx : 0 ≤ x ∧ x < 2147483648) : bg_dg (zu d k x) n := by
  intro i hi
  by_cases q : i = k
  · subst q; rw [zu_s]; exact hx
  · rw [zu_n d x q]; exact h i hi
theorem bg_zu_dgs {d : Nat → Int} {k : Nat} {x : Int} (h : bg_dg d k) (hx : 0 ≤ x ∧ x < 2147483648) : bg_dg (zu d k x) (k + 1) := by
  intro i hi
  by_cases q : i = k
  · subst q; rw [zu_s]; exact hx
  · rw [zu_n d x q]; exact h i (by omega)
theorem bg_mod (t : Int) : 0 ≤ t % 2147483648 ∧ t % 2147483648 < 2147483648 := by omega
theorem bg_carry (t P : Int) : (t % 2147483648) * P + (t / 2147483648) * (2147483648 * P) = t * P := by
  have h : t % 2147483648 + 2147483648 * (t / 2147483648) = t := Int.emod_add_mul_ediv t 2147483648
  have e : (t / 2147483648) * (2147483648 * P) = (2147483648 * (t / 2147483648)) * P := by rw [← Int.mul_assoc, Int.mul_comm (t / 2147483648)]
  rw [e, ← Int.add_mul, h]
/-- one place of a sum of a lower part V, its carry c, and a new digit sum x: g i becomes the low part of c + x -/
theorem bg_step {g : Nat → Int} {i : Nat} {c x V : Int} (h : bg_val g i + c * bg_p i = V) : bg_val (zu g i ((c + x) % 2147483648)) (i + 1) + ((c + x) / 2147483648) * bg_p (i + 1) = V + x * bg_p i := by
  rw [bg_vs, zu_s, bg_zu_lo (Nat.le_refl i), bg_ps, Int.add_assoc, bg_carry, Int.add_mul, ← h]
  omega
theorem bg_zu_hi {g : Nat → Int} {i j : Nat} {x : Int} (h : i < j) : zu g i x j = g j := zu_n g x (by omega)
