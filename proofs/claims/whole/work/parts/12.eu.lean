/-! EUCLID'S ALGORITHM AFTER LEHMER -/
theorem eu_high {e : Nat → Int} {k r m sh : Nat} {v : Int} (h : bg_ok e k r v) (hk : k ≤ m + 3) (hs : sh ≤ 30) : (bg_at e k ((m + 2 : Nat) : Int) * 2147483648 + bg_at e k ((m + 1 : Nat) : Int)) * bg_t sh + bg_at e k ((m : Nat) : Int) / bg_t (31 - sh) = v / bg_t (31 * (m + 1) - sh) := by
  rw [bg_at_x, bg_at_x, bg_at_x]
  have hv : v = bg_val (bg_x e k) (m + 3) := by rw [bg_x_val e k _ hk, h.2.2.2]
  rw [kd_top3] at hv
  have l0 := bg_val_nn (bg_x_dg h.2.1 m)
  have l1 := bg_val_lt (bg_x_dg h.2.1 m)
  have ht := bg_t_pos (31 - sh)
  have hB : (2147483648 : Int) = bg_t sh * bg_t (31 - sh) := by rw [← bg_t_add, show sh + (31 - sh) = 31 by omega]; decide
  have e1 : bg_t (31 * (m + 1) - sh) = bg_p m * bg_t (31 - sh) := by rw [bg_p_t, ← bg_t_add]; congr 1; omega
  generalize bg_val (bg_x e k) m = lo at hv l0 l1
  generalize bg_x e k m = x0 at hv ⊢
  generalize hpr : bg_x e k (m + 2) * 2147483648 + bg_x e k (m + 1) = pr at hv ⊢
  have q1 : v / bg_p m = x0 + pr * 2147483648 := by
    rw [hv, Int.add_mul_ediv_right _ _ (Int.ne_of_gt (bg_p_pos m)), Int.ediv_eq_zero_of_lt l0 l1]; omega
  rw [e1, ← Int.ediv_ediv_of_nonneg (Int.le_of_lt (bg_p_pos m)), q1]
  have q2 : pr * 2147483648 = (pr * bg_t sh) * bg_t (31 - sh) := by rw [Int.mul_assoc, ← hB]
  rw [q2, Int.add_mul_ediv_right _ _ (Int.ne_of_gt ht)]
  omega
/-- the signs of the four factors -/
def eu_sg (uu uv vu vv : Int) : Prop := (0 ≤ uu ∧ uv ≤ 0 ∧ vu ≤ 0 ∧ 0 ≤ vv) ∨ (uu ≤ 0 ∧ 0 ≤ uv ∧ 0 ≤ vu ∧ vv ≤ 0)
def eu_sm (uu uv vu vv : Int) : Prop := (-2147483647 ≤ uu ∧ uu ≤ 2147483647) ∧ (-2147483647 ≤ uv ∧ uv ≤ 2147483647) ∧ (-2147483647 ≤ vu ∧ vu ≤ 2147483647) ∧ (-2147483647 ≤ vv ∧ vv ≤ 2147483647)
/-- what is between a number's two ends -/
theorem eu_ends {S a b c x y u : Int} (hS : 0 < S) (hx : 0 ≤ x ∧ x < S) (hy : 0 ≤ y ∧ y < S) (ha : 0 ≤ a) (hb : b ≤ 0) (hu : u = c * S + a * x + b * y) : (c + b) * S ≤ u ∧ u ≤ (c + a) * S := by
  have h1 : 0 ≤ a * x := Int.mul_nonneg ha hx.1
  have h2 : a * x ≤ a * S := Int.mul_le_mul_of_nonneg_left (Int.le_of_lt hx.2) ha
  have h3 : b * y ≤ 0 := Int.mul_nonpos_of_nonpos_of_nonneg hb hy.1
  have h4 : b * S ≤ b * y := Int.mul_le_mul_of_nonpos_left hb (Int.le_of_lt hy.2)
  rw [Int.add_mul, Int.add_mul]
  omega
/-- the quotient of the highest bits is the quotient -/
theorem eu_quot {S lo hi vlo vhi U V q : Int} (hS : 0 < S) (hU : lo * S ≤ U ∧ U ≤ hi * S) (hV : vlo * S ≤ V ∧ V ≤ vhi * S) (hq : 0 ≤ q) (h1 : q * vhi ≤ lo) (h2 : hi < (q + 1) * vlo) (hvlo : 0 < vlo) : q * V ≤ U ∧ U < (q + 1) * V ∧ 0 < V := by
  have a1 : q * V ≤ q * (vhi * S) := Int.mul_le_mul_of_nonneg_left hV.2 hq
  have a2 : (q * vhi) * S ≤ lo * S := Int.mul_le_mul_of_nonneg_right h1 (Int.le_of_lt hS)
  rw [← Int.mul_assoc] at a1
  have a3 : hi * S < ((q + 1) * vlo) * S := Int.mul_lt_mul_of_pos_right h2 hS
  have a4 : (q + 1) * (vlo * S) ≤ (q + 1) * V := Int.mul_le_mul_of_nonneg_left hV.1 (by omega)
  rw [← Int.mul_assoc] at a4
  have a5 : 0 < vlo * S := Int.mul_pos hvlo hS
  exact ⟨by omega, by omega, by omega⟩
theorem eu_div {x y q : Int} (hy : 0 < y) (h : q = x / y) : q * y ≤ x ∧ x < (q + 1) * y := by
  subst h
  have h1 := Int.mul_ediv_add_emod x y
  have h2 := Int.emod_nonneg x (Int.ne_of_gt hy)
  have h3 := Int.emod_lt_of_pos x hy
  rw [Int.mul_comm] at h1
  rw [Int.add_mul]
  omega
/-- the state of the search for steps: gu, gv the highest bits, U, V the numbers -/
def eu_I (gu gv U V u v uu uv vu vv : Int) : Prop := (u = uu * gu + uv * gv) ∧ (v = vu * gu + vv * gv) ∧ eu_sg uu uv vu vv ∧ eu_sm uu uv vu vv ∧ (0 ≤ v ∧ v ≤ u ∧ u ≤ gu) ∧ (0 ≤ u + uu ∧ 0 ≤ u + uv) ∧ (0 ≤ vu * U + vv * V ∧ vu * U + vv * V ≤ uu * U + uv * V) ∧ ((uu * U + uv * V ≤ U) ∧ Int.gcd (uu * U + uv * V) (vu * U + vv * V) = Int.gcd U V) ∧ ((uv = 0 ∧ uu = 1 ∧ vu = 0 ∧ vv = 1) ∨ 2 * ((uu * U + uv * V) * (vu * U + vv * V)) ≤ U * V)
theorem eu_I0 {gu gv U V : Int} (h0 : 0 ≤ gv ∧ gv ≤ gu) (hV : 0 ≤ V ∧ V ≤ U) : eu_I gu gv U V gu gv 1 0 0 1 := by
  refine ⟨by omega, by omega, Or.inl ⟨by omega, by omega, by omega, by omega⟩, ⟨⟨by omega, by omega⟩, ⟨by omega, by omega⟩, ⟨by omega, by omega⟩, ⟨by omega, by omega⟩⟩, ⟨by omega, by omega, by omega⟩, ⟨by omega, by omega⟩, ⟨by omega, by omega⟩, ⟨by omega, ?_⟩, Or.inl ⟨rfl, rfl, rfl, rfl⟩⟩
  rw [Int.one_mul, Int.zero_mul, Int.zero_mul, Int.one_mul, Int.add_zero, Int.zero_add]
theorem eu_gcd_step (a b q : Int) : Int.gcd b (a - q * b) = Int.gcd a b := by
  rw [Int.gcd_comm a b, Int.sub_eq_add_neg, ← Int.neg_mul]
  rw [Int.mul_comm (-q) b]
  exact Int.gcd_add_mul_left_right b a (-q)
theorem eu_step {gu gv U V u v uu uv vu vv S q : Int} (hS : 0 < S) (hU : gu * S ≤ U ∧ U < (gu + 1) * S) (hV : gv * S ≤ V ∧ V < (gv + 1) * S) (hV0 : 0 ≤ V) (hI : eu_I gu gv U V u v uu uv vu vv) (c1 : 0 < v + vu) (c2 : 0 < v + vv) (q1 : q = (u + uu) / (v + vu)) (q2 : q = (u + uv) / (v + vv)) (hn1 : -2147483647 ≤ uu - q * vu ∧ uu - q * vu ≤ 2147483647) (hn2 : -2147483647 ≤ uv - q * vv ∧ uv - q * vv ≤ 2147483647) :
    eu_I gu gv U V v (u - q * v) vu vv (uu - q * vu) (uv - q * vv) := by
  obtain ⟨i1, i2, i3, i4, i5, i6, i7, ⟨i8, i9⟩, i10⟩ := hI
  have hq0 : 0 ≤ q := by rw [q1]; exact Int.ediv_nonneg i6.1 (Int.le_of_lt c1)
  have d1 := eu_div c1 q1
  have d2 := eu_div c2 q2
  obtain ⟨x, hx⟩ : ∃ x, x = U - gu * S := ⟨_, rfl⟩
  obtain ⟨y, hy⟩ : ∃ y, y = V - gv * S := ⟨_, rfl⟩
  have hx0 : 0 ≤ x ∧ x < S := by rw [Int.add_mul] at hU; omega
  have hy0 : 0 ≤ y ∧ y < S := by rw [Int.add_mul] at hV; omega
  have eU : uu * U + uv * V = u * S + uu * x + uv * y := by
    rw [i1, hx, hy, Int.mul_sub, Int.mul_sub, Int.add_mul]
    simp only [Int.mul_assoc]
    omega
  have eV : vu * U + vv * V = v * S + vu * x + vv * y := by
    rw [i2, hx, hy, Int.mul_sub, Int.mul_sub, Int.add_mul]
    simp only [Int.mul_assoc]
    omega
  have key : q * (vu * U + vv * V) ≤ uu * U + uv * V ∧ uu * U + uv * V < (q + 1) * (vu * U + vv * V) ∧ 0 < vu * U + vv * V ∧ q * v ≤ u := by
    rcases i3 with ⟨s1, s2, s3, s4⟩ | ⟨s1, s2, s3, s4⟩
    · have b1 := eu_ends hS hx0 hy0 s1 s2 eU
      have b2 := eu_ends hS hy0 hx0 s4 s3 (show vu * U + vv * V = v * S + vv * y + vu * x by omega)
      have := eu_quot hS b1 b2 hq0 d2.1 d1.2 c1
      have hqv : 0 ≤ q * vv := Int.mul_nonneg hq0 s4
      rw [Int.mul_add] at d2
      exact ⟨this.1, this.2.1, this.2.2, by omega⟩
    · have b1 := eu_ends hS hy0 hx0 s2 s1 (show uu * U + uv * V = u * S + uv * y + uu * x by omega)
      have b2 := eu_ends hS hx0 hy0 s3 s4 eV
      have := eu_quot hS b1 b2 hq0 d1.1 d2.2 c2
      have hqv : 0 ≤ q * vu := Int.mul_nonneg hq0 s3
      rw [Int.mul_add] at d1
      exact ⟨this.1, this.2.1, this.2.2, by omega⟩
  obtain ⟨k1, k2, k3, k4⟩ := key
  generalize hA : uu * U + uv * V = Au at *
  generalize hB : vu * U + vv * V = Bv at *
  have hq1 : 1 ≤ q := by
    rcases (show 1 ≤ q ∨ q = 0 by omega) with w | w
    · exact w
    · rw [w, Int.zero_add, Int.one_mul] at k2; omega
  have e3 : (uu - q * vu) * U + (uv - q * vv) * V = Au - q * Bv := by
    rw [← hA, ← hB, Int.sub_mul, Int.sub_mul, Int.mul_add]
    simp only [Int.mul_assoc]
    omega
  have e4 : q * Bv + Bv = (q + 1) * Bv := by rw [Int.add_mul, Int.one_mul]
  have e5 : 1 * Bv ≤ q * Bv := Int.mul_le_mul_of_nonneg_right hq1 (Int.le_of_lt k3)
  have hv0 : 0 < v := by rcases i3 with ⟨s1, s2, s3, s4⟩ | ⟨s1, s2, s3, s4⟩ <;> omega
  have e6 : 1 * v ≤ q * v := Int.mul_le_mul_of_nonneg_right hq1 (Int.le_of_lt hv0)
  refine ⟨i2, ?_, ?_, ⟨i4.2.2.1, i4.2.2.2, hn1, hn2⟩, ⟨by omega, ?_, by omega⟩, ⟨by omega, by omega⟩, ?_, ⟨by rw [hB]; omega, ?_⟩, Or.inr ?_⟩
  · rw [i1, i2, Int.sub_mul, Int.sub_mul, Int.mul_add]
    simp only [Int.mul_assoc]
    omega
  · rcases i3 with ⟨s1, s2, s3, s4⟩ | ⟨s1, s2, s3, s4⟩
    · refine Or.inr ⟨s3, s4, ?_, ?_⟩
      · have : q * vu ≤ 0 := Int.mul_nonpos_of_nonneg_of_nonpos hq0 s3
        omega
      · have : 0 ≤ q * vv := Int.mul_nonneg hq0 s4
        omega
    · refine Or.inl ⟨s3, s4, ?_, ?_⟩
      · have : 0 ≤ q * vu := Int.mul_nonneg hq0 s3
        omega
      · have : q * vv ≤ 0 := Int.mul_nonpos_of_nonneg_of_nonpos hq0 s4
        omega
  · -- the new lesser one is not above the new greater one
    have hlt : u - q * v ≤ v := by
      rcases i3 with ⟨s1, s2, s3, s4⟩ | ⟨s1, s2, s3, s4⟩
      · have : (q + 1) * (v + vu) = q * v + v + (q + 1) * vu := by rw [Int.mul_add, Int.add_mul, Int.one_mul]
        have h8 : (q + 1) * vu ≤ 0 := Int.mul_nonpos_of_nonneg_of_nonpos (by omega) s3
        omega
      · have : (q + 1) * (v + vv) = q * v + v + (q + 1) * vv := by rw [Int.mul_add, Int.add_mul, Int.one_mul]
        have h8 : (q + 1) * vv ≤ 0 := Int.mul_nonpos_of_nonneg_of_nonpos (by omega) s4
        omega
    exact hlt
  · rw [e3, hB]; omega
  · rw [e3, hB, eu_gcd_step]; exact i9
  · rw [e3, hB]
    have f1 : 2 * (Au - q * Bv) ≤ Au := by omega
    have f2 : Bv * (2 * (Au - q * Bv)) ≤ Bv * Au := Int.mul_le_mul_of_nonneg_left f1 (Int.le_of_lt k3)
    have f3 : Bv * (2 * (Au - q * Bv)) = 2 * (Bv * (Au - q * Bv)) := Int.mul_left_comm ..
    have f4 : Au * Bv ≤ U * V := by
      rcases i10 with ⟨w1, w2, w3, w4⟩ | w
      · rw [← hA, ← hB, w1, w2, w3, w4]
        have : (1 * U + 0 * V) * (0 * U + 1 * V) = U * V := by rw [Int.one_mul, Int.zero_mul, Int.zero_mul, Int.one_mul, Int.add_zero, Int.zero_add]
        omega
      · have h0 : 0 ≤ Au * Bv := Int.mul_nonneg (by omega) (Int.le_of_lt k3)
        omega
    rw [Int.mul_comm Au] at f4
    omega
/-- one place of the two sums -/
theorem eu_cb {c a b x y : Int} (hc : -2147483648 ≤ c ∧ c ≤ 2147483648) (ha : 0 ≤ a ∧ a ≤ 2147483647) (hb : -2147483647 ≤ b ∧ b ≤ 0) (hx : 0 ≤ x ∧ x < 2147483648) (hy : 0 ≤ y ∧ y < 2147483648) : -4611686018427387904 ≤ c + (a * x + b * y) ∧ c + (a * x + b * y) ≤ 4611686018427387904 ∧ (0 ≤ a * x ∧ a * x ≤ 4611686014132420609) ∧ (-4611686014132420609 ≤ b * y ∧ b * y ≤ 0) := by
  have h1 := bg_mul_dg (x := a) (y := x) ⟨ha.1, by omega⟩ hx
  have h2 := bg_mul_dg (x := -b) (y := y) ⟨by omega, by omega⟩ hy
  rw [Int.neg_mul] at h2
  omega
theorem eu_cs {c a b x y : Int} (hc : -2147483648 ≤ c ∧ c ≤ 2147483648) (hs : (0 ≤ a ∧ b ≤ 0) ∨ (a ≤ 0 ∧ 0 ≤ b)) (ha : -2147483647 ≤ a ∧ a ≤ 2147483647) (hb : -2147483647 ≤ b ∧ b ≤ 2147483647) (hx : 0 ≤ x ∧ x < 2147483648) (hy : 0 ≤ y ∧ y < 2147483648) : -4611686018427387904 ≤ c + (a * x + b * y) ∧ c + (a * x + b * y) ≤ 4611686018427387904 ∧ (-4611686014132420609 ≤ a * x ∧ a * x ≤ 4611686014132420609) ∧ (-4611686014132420609 ≤ b * y ∧ b * y ≤ 4611686014132420609) ∧ (-2147483648 ≤ (c + (a * x + b * y)) / 2147483648 ∧ (c + (a * x + b * y)) / 2147483648 ≤ 2147483648) := by
  rcases hs with ⟨s1, s2⟩ | ⟨s1, s2⟩
  · have := eu_cb hc ⟨s1, ha.2⟩ ⟨hb.1, s2⟩ hx hy
    omega
  · have := eu_cb (c := c) hc ⟨s2, hb.2⟩ ⟨ha.1, s1⟩ hy hx
    omega
theorem eu_sum {g d e : Nat → Int} {i k : Nat} {c a b : Int} (h : bg_val g i + c * bg_p i = a * bg_val d i + b * bg_val (bg_x e k) i) : bg_val (zu g i ((c + (a * d i + b * bg_at e k (i : Int))) % 2147483648)) (i + 1) + ((c + (a * d i + b * bg_at e k (i : Int))) / 2147483648) * bg_p (i + 1) = a * bg_val d (i + 1) + b * bg_val (bg_x e k) (i + 1) := by
  rw [bg_step h, bg_at_x, bg_vs, bg_vs, Int.mul_add, Int.mul_add, Int.add_mul, Int.mul_assoc, Int.mul_assoc]
  omega
theorem eu_end {g : Nat → Int} {n room : Nat} {c X : Int} (hn : n ≤ room) (hg : bg_dg g n) (hX : 0 ≤ X ∧ X < bg_p n) (h : bg_val g n + c * bg_p n = X) : bg_ok g (bg_trim g n) room X := by
  have a1 := bg_val_nn hg
  have a2 := bg_val_lt hg
  have hp := bg_p_pos n
  have hc : c = 0 := by
    rcases (show c = 0 ∨ 1 ≤ c ∨ c ≤ -1 by omega) with w | w | w
    · exact w
    · have : 1 * bg_p n ≤ c * bg_p n := Int.mul_le_mul_of_nonneg_right w (Int.le_of_lt hp)
      omega
    · have : c * bg_p n ≤ (-1) * bg_p n := Int.mul_le_mul_of_nonneg_right w (Int.le_of_lt hp)
      omega
  rw [hc, Int.zero_mul, Int.add_zero] at h
  have := bg_ok_trim hn hg
  rw [h] at this
  exact this
