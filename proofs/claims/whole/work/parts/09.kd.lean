/-! LONG DIVISION (Knuth's algorithm D), to the base 2^31 -/
theorem kd_lt_of_mul {a b P : Int} (hP : 0 < P) (h : a * P < b * P) : a < b := by
  rcases Int.lt_or_le a b with q | q
  · exact q
  · have := Int.mul_le_mul_of_nonneg_right q (Int.le_of_lt hP); omega
theorem kd_q0 {H N t pair P V U lv lu q : Int} (hP : 0 < P) (hV : V = lv + (N + H * 2147483648) * P) (hU : U = lu + (t + pair * 2147483648) * P) (h1 : 0 ≤ lv) (h2 : lu < P) (hN : 0 ≤ N) (ht : t < 2147483648) (hH : 0 < H) (hq : 0 ≤ q) (h : q * V ≤ U) : q ≤ pair / H := by
  have a1 : (H * 2147483648) * P ≤ V := by
    have : 0 ≤ N * P := Int.mul_nonneg hN (Int.le_of_lt hP)
    rw [hV, Int.add_mul]; omega
  have a2 : q * ((H * 2147483648) * P) ≤ q * V := Int.mul_le_mul_of_nonneg_left a1 hq
  have a3 : (q * (H * 2147483648)) * P < (t + 1 + pair * 2147483648) * P := by
    rw [Int.mul_assoc, show t + 1 + pair * 2147483648 = (t + pair * 2147483648) + 1 by omega, Int.add_mul]; omega
  have a4 := kd_lt_of_mul hP a3
  rw [← Int.mul_assoc] at a4
  exact Int.le_ediv_of_mul_le hH (by omega)
theorem kd_gt {H N t pair P V U lv lu q z left : Int} (hP : 0 < P) (hV : V = lv + (N + H * 2147483648) * P) (hU : U = lu + (t + pair * 2147483648) * P) (h1 : 0 ≤ lv) (h2 : lu < P) (hz : 0 ≤ z) (hleft : left = pair - z * H) (hV0 : 0 ≤ V) (h : q * V ≤ U) (ht : left * 2147483648 + t < z * N) : q ≤ z - 1 := by
  rcases (show q ≤ z - 1 ∨ z ≤ q by omega) with w | w
  · exact w
  · exfalso
    have a0 : z * V ≤ q * V := Int.mul_le_mul_of_nonneg_right w hV0
    have a1 : (N + H * 2147483648) * P ≤ V := by omega
    have a2 : z * ((N + H * 2147483648) * P) ≤ z * V := Int.mul_le_mul_of_nonneg_left a1 hz
    have e9 : (t + 1 + pair * 2147483648) * P = (t + pair * 2147483648) * P + P := by
      rw [show t + 1 + pair * 2147483648 = (t + pair * 2147483648) + 1 by omega, Int.add_mul, Int.one_mul]
    have a3 : (z * (N + H * 2147483648)) * P < (t + 1 + pair * 2147483648) * P := by
      rw [Int.mul_assoc, e9]; omega
    have a4 := kd_lt_of_mul hP a3
    rw [Int.mul_add, ← Int.mul_assoc] at a4
    rw [hleft] at ht
    omega
theorem kd_close {H N t pair P V U lv lu z left : Int} (hP : 0 < P) (hV : V = lv + (N + H * 2147483648) * P) (hU : U = lu + (t + pair * 2147483648) * P) (h1 : lv < P) (h2 : 0 ≤ lu) (hz : 0 ≤ z ∧ z < 2147483648) (hleft : left = pair - z * H) (hl0 : 0 ≤ lv) (hN : 0 ≤ N) (hH : 1 ≤ H) (ht : z * N ≤ left * 2147483648 + t) : (z - 1) * V ≤ U := by
  have a1 : z * lv ≤ z * P := Int.mul_le_mul_of_nonneg_left (Int.le_of_lt h1) hz.1
  have a2 : z * P ≤ 2147483648 * P := Int.mul_le_mul_of_nonneg_right (by omega) (Int.le_of_lt hP)
  have a3 : 2147483648 * P ≤ (N + H * 2147483648) * P := Int.mul_le_mul_of_nonneg_right (by omega) (Int.le_of_lt hP)
  have a4 : z * (N + H * 2147483648) ≤ t + pair * 2147483648 := by
    rw [Int.mul_add, ← Int.mul_assoc, show z * H = pair - left by omega]
    omega
  have a5 : (z * (N + H * 2147483648)) * P ≤ (t + pair * 2147483648) * P := Int.mul_le_mul_of_nonneg_right a4 (Int.le_of_lt hP)
  have a6 : z * V = z * lv + (z * (N + H * 2147483648)) * P := by rw [hV, Int.mul_add, Int.mul_assoc]
  rw [Int.sub_mul, Int.one_mul]
  omega
theorem kd_qB {q V U : Int} (hV : 0 < V) (h : q * V ≤ U) (hU : U < V * 2147483648) : q ≤ 2147483647 := by
  have : q * V < 2147483648 * V := by rw [Int.mul_comm 2147483648]; omega
  have := kd_lt_of_mul hV this
  omega
/-- a window of digits -/
theorem zu_shift (g : Nat → Int) (a i : Nat) (x : Int) : (fun j => zu g (a + i) x (a + j)) = zu (fun j => g (a + j)) i x := by
  funext j
  unfold zu
  by_cases q : j = i
  · rw [if_pos q, if_pos (by omega)]
  · rw [if_neg q, if_neg (by omega)]
theorem bg_win_dg {g : Nat → Int} {a n m : Nat} (h : bg_dg g m) (hm : a + n ≤ m) : bg_dg (fun j => g (a + j)) n := fun i hi => h (a + i) (by omega)
/-- the top two or three digits -/
theorem kd_top2 (v : Nat → Int) (n : Nat) : bg_val v (n + 2) = bg_val v n + (v n + v (n + 1) * 2147483648) * bg_p n := by
  rw [bg_vs, bg_vs, bg_ps, Int.add_mul, Int.mul_assoc, Int.add_assoc]
theorem kd_top3 (u : Nat → Int) (n : Nat) : bg_val u (n + 3) = bg_val u n + (u n + (u (n + 2) * 2147483648 + u (n + 1)) * 2147483648) * bg_p n := by
  rw [bg_vs, kd_top2, bg_ps, bg_ps]
  have : (u n + (u (n + 2) * 2147483648 + u (n + 1)) * 2147483648) * bg_p n = (u n + u (n + 1) * 2147483648) * bg_p n + u (n + 2) * (2147483648 * (2147483648 * bg_p n)) := by
    rw [Int.add_mul, Int.add_mul, Int.add_mul, Int.add_mul]
    simp only [Int.mul_assoc]
    omega
  rw [this]
  omega
/-- the shift down -/
theorem sd_digit {s : Nat} {y u : Int} (hs : s ≤ 30) (hu : 0 ≤ u ∧ u < 2147483648) (hy : 0 ≤ y) : bg_t s * ((y * 2147483648 + u) / bg_t s % 2147483648) = u - u % bg_t s + (y % bg_t s) * 2147483648 := by
  have ht := bg_t_pos s
  obtain ⟨c, hc⟩ : ∃ c, c = bg_t (31 - s) := ⟨_, rfl⟩
  have hc0 : 0 < c := by rw [hc]; exact bg_t_pos _
  have hB : (2147483648 : Int) = bg_t s * c := by rw [hc, ← bg_t_add, show s + (31 - s) = 31 by omega]; decide
  have hy0 : y = bg_t s * (y / bg_t s) + y % bg_t s := (Int.mul_ediv_add_emod y (bg_t s)).symm
  have hy1 := Int.emod_nonneg y (Int.ne_of_gt ht)
  have hy2 := Int.emod_lt_of_pos y ht
  have hu0 : u = bg_t s * (u / bg_t s) + u % bg_t s := (Int.mul_ediv_add_emod u (bg_t s)).symm
  have hu1 := Int.emod_nonneg u (Int.ne_of_gt ht)
  have hu2 : u / bg_t s < c := Int.ediv_lt_of_lt_mul ht (by rw [Int.mul_comm, ← hB]; exact hu.2)
  have hu3 : 0 ≤ u / bg_t s := Int.ediv_nonneg hu.1 (Int.le_of_lt ht)
  have e1 : (y * 2147483648 + u) / bg_t s = (y % bg_t s) * c + u / bg_t s + 2147483648 * (y / bg_t s) := by
    have : y * 2147483648 + u = u + bg_t s * ((y % bg_t s) * c + 2147483648 * (y / bg_t s)) := by
      have : y * 2147483648 = (bg_t s * (y / bg_t s) + y % bg_t s) * 2147483648 := by rw [← hy0]
      rw [this, Int.add_mul, Int.mul_add, Int.add_comm]
      congr 1
      rw [Int.add_comm]
      congr 1
      · rw [Int.mul_left_comm, ← hB]
      · rw [Int.mul_assoc, Int.mul_comm (y / bg_t s)]
    rw [this, Int.add_mul_ediv_left _ _ (Int.ne_of_gt ht)]
    omega
  have e2 : (y % bg_t s) * c + u / bg_t s < 2147483648 := by
    have : (y % bg_t s + 1) * c ≤ bg_t s * c := Int.mul_le_mul_of_nonneg_right (by omega) (Int.le_of_lt hc0)
    rw [← hB, Int.add_mul] at this
    omega
  have e3 : 0 ≤ (y % bg_t s) * c := Int.mul_nonneg hy1 (Int.le_of_lt hc0)
  rw [e1, Int.add_mul_emod_self_left, Int.emod_eq_of_lt (by omega) e2, Int.mul_add]
  have e4 : bg_t s * ((y % bg_t s) * c) = (y % bg_t s) * 2147483648 := by rw [Int.mul_left_comm, ← hB]
  omega
theorem sd_step {g u : Nat → Int} {i s : Nat} {y l0 : Int} (hs : s ≤ 30) (hu : 0 ≤ u i ∧ u i < 2147483648) (hy : 0 ≤ y) (h : bg_t s * bg_val g i = bg_val u i - l0 + (u i % bg_t s) * bg_p i) : bg_t s * bg_val (zu g i ((y * 2147483648 + u i) / bg_t s % 2147483648)) (i + 1) = bg_val u (i + 1) - l0 + (y % bg_t s) * bg_p (i + 1) := by
  rw [bg_vs, zu_s, bg_zu_lo (Nat.le_refl i), Int.mul_add, h, ← Int.mul_assoc, sd_digit hs hu hy, bg_vs, bg_ps, Int.add_mul, Int.sub_mul, Int.mul_assoc]
  omega
theorem sd_end {V l0 G : Int} {s : Nat} (h0 : 0 ≤ l0 ∧ l0 < bg_t s) (h : bg_t s * G = V - l0) : G = V / bg_t s := by
  have ht := bg_t_pos s
  have : V = l0 + bg_t s * G := by omega
  rw [this, Int.add_mul_ediv_left _ _ (Int.ne_of_gt ht), Int.ediv_eq_zero_of_lt h0.1 h0.2]
  omega
