/-! THE DETERMINANT MODULO A PRIME -/
def pm_prime (q : Int) : Prop := 2 ≤ q ∧ q ≤ 46337 ∧ ∀ d : Nat, 2 ≤ d → ((d * d : Nat) : Int) ≤ q → q % (d : Int) ≠ 0
theorem pm_mul {a b : Int} (h1 : 0 ≤ a) (h2 : a ≤ 46337) (h3 : 0 ≤ b) (h4 : b ≤ 46337) : 0 ≤ a * b ∧ a * b ≤ 2147117569 := by
  refine ⟨Int.mul_nonneg h1 h3, ?_⟩
  have e1 : a * b ≤ 46337 * b := Int.mul_le_mul_of_nonneg_right h2 h3
  omega
theorem pm_eq {q x y : Int} (h : ∃ k : Int, x = y + q * k) : x % q = y % q := by
  obtain ⟨k, rfl⟩ := h
  exact Int.add_mul_emod_self_left y q k
theorem pm_dec (x q : Int) : ∃ k : Int, x % q = x + q * k := ⟨-(x / q), by have := Int.mul_ediv_add_emod x q; rw [Int.mul_neg]; omega⟩
theorem pm_pw {a q v : Int} {e b : Nat} (hb : 0 < b) (hv : v = a ^ (e / 2 ^ b) % q) : (((e : Nat) : Int) / 2 ^ (b - 1) % 2 ^ 1 ≠ 1 → v * v % q = a ^ (e / 2 ^ (b - 1)) % q) ∧ (((e : Nat) : Int) / 2 ^ (b - 1) % 2 ^ 1 = 1 → v * v % q * a % q = a ^ (e / 2 ^ (b - 1)) % q) := by
  have e1 : e / 2 ^ b = e / 2 ^ (b - 1) / 2 := by
    rw [Nat.div_div_eq_div_mul, ← Nat.pow_succ, show (b - 1).succ = b by omega]
  have e2 : ((e : Nat) : Int) / 2 ^ (b - 1) = ((e / 2 ^ (b - 1) : Nat) : Int) := by simp
  rw [e2]
  rw [e1] at hv
  generalize e / 2 ^ (b - 1) = E at *
  have e3 : ((E : Nat) : Int) % 2 ^ 1 = ((E % 2 : Nat) : Int) := by simp
  rw [e3]
  obtain ⟨k1, hk1⟩ := pm_dec (a ^ (E / 2)) q
  rw [← hv] at hk1
  have sq : ∃ k : Int, v * v = a ^ (E / 2) * a ^ (E / 2) + q * k := ⟨a ^ (E / 2) * k1 * 2 + q * k1 * k1, by rw [hk1]; grind⟩
  refine ⟨fun h => ?_, fun h => ?_⟩
  · have : E = E / 2 + E / 2 := by omega
    have e4 : a ^ E = a ^ (E / 2) * a ^ (E / 2) := by rw [← Int.pow_add, ← this]
    rw [e4]
    exact pm_eq sq
  · have : E = E / 2 + E / 2 + 1 := by omega
    have e4 : a ^ E = a ^ (E / 2) * a ^ (E / 2) * a := by rw [← Int.pow_add, ← Int.pow_succ, ← show E = (E / 2 + E / 2).succ from this]
    rw [e4]
    obtain ⟨k2, hk2⟩ := sq
    obtain ⟨k3, hk3⟩ := pm_dec (v * v) q
    refine pm_eq ⟨(k2 + k3) * a, ?_⟩
    rw [hk3, hk2]; grind
theorem pm_hx {g : Nat → Int} {n b : Nat} {v q : Int} (hb : 0 < b) (hbn : b ≤ n) (hv : v = hx_val (fun i => g (b + i)) (n - b) % q) : (v * 65536 + g (b - 1)) % q = hx_val (fun i => g (b - 1 + i)) (n - (b - 1)) % q := by
  have e2 := hx_val_split (fun i => g (b - 1 + i)) 1 (n - b)
  rw [show 1 + (n - b) = n - (b - 1) by omega] at e2
  have e3 : hx_val (fun i => g (b - 1 + i)) 1 = g (b - 1) := by
    rw [hx_vs, hx_v0, hx_p0]
    show 0 + g (b - 1 + 0) * 1 = g (b - 1)
    rw [Nat.add_zero]; omega
  have e4 : (fun i => (fun i => g (b - 1 + i)) (1 + i)) = fun i => g (b + i) := by
    funext i
    show g (b - 1 + (1 + i)) = _
    rw [show b - 1 + (1 + i) = b + i by omega]
  rw [e3, e4, show hx_p 1 = 65536 from rfl] at e2
  rw [e2]
  obtain ⟨k, hk⟩ := pm_dec (hx_val (fun i => g (b + i)) (n - b)) q
  rw [← hv] at hk
  exact pm_eq ⟨k * 65536, by rw [hk]; grind⟩
/-- an entry of the square, modulo q -/
def pm_e (V : Nat → Rat) (q : Int) (f : Nat) : Int := (V f).num * (((V f).den : Int) % q) ^ (q.toNat - 2) % q
theorem pm_e_m {V : Nat → Rat} {q v : Int} {f : Nat} (hq : 0 < q) (hv : v = ((V f).num.natAbs : Int) % q * ((((V f).den : Int) % q) ^ (q.toNat - 2) % q) % q) : ((V f).num.sign < 0 → (q - v) % q = pm_e V q f) ∧ (¬ (V f).num.sign < 0 → v = pm_e V q f) := by
  unfold pm_e
  generalize ((V f).den : Int) % q = d at *
  generalize (V f).num = z at *
  obtain ⟨k1, h1⟩ := pm_dec (z.natAbs : Int) q
  obtain ⟨k2, h2⟩ := pm_dec (d ^ (q.toNat - 2)) q
  obtain ⟨k3, h3⟩ := pm_dec ((z.natAbs : Int) % q * (d ^ (q.toNat - 2) % q)) q
  rw [← hv] at h3
  rw [h1, h2] at h3
  generalize d ^ (q.toNat - 2) = E at *
  refine ⟨fun h => ?_, fun h => ?_⟩
  · have hz : (z.natAbs : Int) = - z := by have := Int.sign_neg_iff.mp h; omega
    rw [hz] at h3
    exact pm_eq ⟨1 - (k1 * E + (-z) * k2 + q * k1 * k2 + k3), by rw [h3]; grind⟩
  · have hz : (z.natAbs : Int) = z := by
      have : ¬ z < 0 := fun w => h (Int.sign_neg_iff.mpr w)
      omega
    have hv2 : v = v % q := by rw [hv, Int.emod_emod]
    rw [hv2]
    rw [hz] at h3
    exact pm_eq ⟨k1 * E + z * k2 + q * k1 * k2 + k3, by rw [h3]; grind⟩
def pm_find (R : Nat → Nat → Int) (c : Nat) : Nat → Nat → Nat
  | i, 0 => i
  | i, t + 1 => if R i c = 0 then pm_find R c (i + 1) t else i
def pm_sw (R : Nat → Nat → Int) (a b i j : Nat) : Int := if i = a then R b j else if i = b then R a j else R i j
def pm_cl (q : Int) (R : Nat → Nat → Int) (c i j : Nat) : Int := if c < i ∧ c ≤ j then (R i j - R i c * (R c c ^ (q.toNat - 2) % q) % q * R c j) % q else R i j
def pm_go (q : Int) (n : Nat) : Nat → Nat → (Nat → Nat → Int) → Int → Int
  | 0, _, _, al => al
  | t + 1, c, R, al => if pm_find R c c (n - c) < n then pm_go q n t (c + 1) (pm_cl q (pm_sw R (pm_find R c c (n - c)) c) c) ((if pm_find R c c (n - c) = c then al else q - al) * R (pm_find R c c (n - c)) c % q) else 0
theorem pm_find_ge (R : Nat → Nat → Int) (c : Nat) : ∀ (t i : Nat), i ≤ pm_find R c i t := by
  intro t
  induction t with
  | zero => intro i; exact Nat.le_refl i
  | succ t ih =>
    intro i
    show i ≤ if R i c = 0 then pm_find R c (i + 1) t else i
    split
    · have := ih (i + 1); omega
    · exact Nat.le_refl i
theorem pm_sw_same (R : Nat → Nat → Int) (a : Nat) : pm_sw R a a = R := by
  funext i j
  unfold pm_sw
  by_cases h : i = a
  · rw [if_pos h, h]
  · rw [if_neg h, if_neg h]
/-- what the answer is -/
def pm_rel (V : Nat → Rat) (n : Nat) (q r : Int) : Prop := (¬ pm_prime q ∧ r = -1) ∨ (pm_prime q ∧ (∃ i j : Nat, i < n ∧ j < n ∧ ((V (7 * i + j)).den : Int) % q = 0) ∧ r = -1) ∨ (pm_prime q ∧ (∀ i j : Nat, i < n → j < n → ((V (7 * i + j)).den : Int) % q ≠ 0) ∧ r = pm_go q n n 0 (fun i j => pm_e V q (7 * i + j)) 1)
theorem pm_uniq {V : Nat → Rat} {n : Nat} {q r1 r2 : Int} (h1 : pm_rel V n q r1) (h2 : pm_rel V n q r2) : r1 = r2 := by
  rcases h1 with ⟨a1, a2⟩ | ⟨a1, ⟨i, j, a2, a3, a4⟩, a5⟩ | ⟨a1, a2, a3⟩ <;> rcases h2 with ⟨b1, b2⟩ | ⟨b1, ⟨i2, j2, b2, b3, b4⟩, b5⟩ | ⟨b1, b2, b3⟩
  · rw [a2, b2]
  · exact absurd b1 a1
  · exact absurd b1 a1
  · exact absurd a1 b1
  · rw [a5, b5]
  · exact absurd a4 (b2 i j a2 a3)
  · exact absurd a1 b1
  · exact absurd b4 (a2 i2 j2 b2 b3)
  · rw [a3, b3]
/-- the square of an array of rows of six, its numbers below q -/
def pm_A (n : Nat) (q : Int) (Z : Nat → Int) (R : Nat → Nat → Int) : Prop := ∀ i j : Nat, i < n → j < n → Z (6 * i + j) = R i j ∧ 0 ≤ R i j ∧ R i j < q
/-- rows exchanged in the first k columns -/
def pm_swk (k : Nat) (R : Nat → Nat → Int) (a b i j : Nat) : Int := if j < k then pm_sw R a b i j else R i j
theorem pm_swk_0 (R : Nat → Nat → Int) (a b : Nat) : pm_swk 0 R a b = R := by
  funext i j; unfold pm_swk; rw [if_neg (Nat.not_lt_zero j)]
theorem pm_A_sw {n k a b : Nat} {q : Int} {Z : Nat → Int} {R : Nat → Nat → Int} (h : pm_A n q Z (pm_swk k R a b)) (hn : n ≤ 6) (hk : k < n) (ha : a < n) (hb : b < n) (hab : a ≠ b) : pm_A n q (zu (zu Z (6 * a + k) (Z (6 * b + k))) (6 * b + k) (Z (6 * a + k))) (pm_swk (k + 1) R a b) := by
  have ka : Z (6 * a + k) = R a k ∧ 0 ≤ R a k ∧ R a k < q := by have := h a k ha hk; rw [show pm_swk k R a b a k = R a k from if_neg (Nat.lt_irrefl k)] at this; exact this
  have kb : Z (6 * b + k) = R b k ∧ 0 ≤ R b k ∧ R b k < q := by have := h b k hb hk; rw [show pm_swk k R a b b k = R b k from if_neg (Nat.lt_irrefl k)] at this; exact this
  intro i j hi hj
  by_cases q1 : 6 * i + j = 6 * b + k
  · have : i = b := by omega
    have : j = k := by omega
    subst i j
    rw [zu_s, show pm_swk (k + 1) R a b b k = R a k by unfold pm_swk pm_sw; rw [if_pos (Nat.lt_succ_self k), if_neg (Ne.symm hab), if_pos rfl]]
    exact ka
  · rw [zu_n _ _ q1]
    by_cases q2 : 6 * i + j = 6 * a + k
    · have : i = a := by omega
      have : j = k := by omega
      subst i j
      rw [zu_s, show pm_swk (k + 1) R a b a k = R b k by unfold pm_swk pm_sw; rw [if_pos (Nat.lt_succ_self k), if_pos rfl]]
      exact kb
    · rw [zu_n _ _ q2]
      have e : pm_swk (k + 1) R a b i j = pm_swk k R a b i j := by
        unfold pm_swk
        by_cases w : j = k
        · rw [if_pos (by omega), if_neg (by omega)]
          unfold pm_sw
          rw [if_neg (fun z => q2 (by rw [z, w])), if_neg (fun z => q1 (by rw [z, w]))]
        · by_cases w2 : j < k
          · rw [if_pos (by omega), if_pos w2]
          · rw [if_neg (by omega), if_neg w2]
      rw [e]
      exact h i j hi hj
theorem pm_A_ext {n : Nat} {q : Int} {Z : Nat → Int} {R R' : Nat → Nat → Int} (h : pm_A n q Z R) (he : ∀ i j : Nat, i < n → j < n → R i j = R' i j) : pm_A n q Z R' := fun i j hi hj => by rw [← he i j hi hj]; exact h i j hi hj
/-- rows c < i < a cleared, row a in the columns below k -/
def pm_clk (q : Int) (a k : Nat) (R : Nat → Nat → Int) (c i j : Nat) : Int := if i < a ∨ (i = a ∧ j < k) then pm_cl q R c i j else R i j
theorem pm_A_cl {n k a c : Nat} {q x : Int} {Z : Nat → Int} {R : Nat → Nat → Int} (h : pm_A n q Z (pm_clk q a k R c)) (hq : 0 < q) (hn : n ≤ 6) (hk : k < n) (ha : a < n) (hca : c < a) (hck : c ≤ k) (hx : x = (R a k - R a c * (R c c ^ (q.toNat - 2) % q) % q * R c k) % q) : pm_A n q (zu Z (6 * a + k) x) (pm_clk q a (k + 1) R c) := by
  intro i j hi hj
  by_cases q2 : 6 * i + j = 6 * a + k
  · have : i = a := by omega
    have : j = k := by omega
    subst i j
    have e : pm_clk q a (k + 1) R c a k = x := by
      unfold pm_clk pm_cl
      rw [if_pos (Or.inr ⟨rfl, Nat.lt_succ_self k⟩), if_pos ⟨hca, hck⟩, hx]
    rw [zu_s, e]
    exact ⟨rfl, by rw [hx]; exact Int.emod_nonneg _ (by omega), by rw [hx]; exact Int.emod_lt_of_pos _ hq⟩
  · rw [zu_n _ _ q2]
    have e : pm_clk q a (k + 1) R c i j = pm_clk q a k R c i j := by
      unfold pm_clk
      by_cases w : i < a ∨ (i = a ∧ j < k)
      · rw [if_pos w, if_pos (by omega)]
      · rw [if_neg w, if_neg (by omega)]
    rw [e]
    exact h i j hi hj
set_option maxHeartbeats 4000000 in
set_option maxRecDepth 100000 in
/-- Model.isPrime -/
theorem c_isPrime (l : Launch) (D : va_G) (cI cJ cE cF cR : ClassId) (q9 : Int) (hq0 : iR q9) : Ci l D (zty cI cJ cE cF cR) yX11_isPrime wsX11_isPrime (zRm 0 0) 0 0 [.int (iZ (q9))] [] (fun r w1 => w1 = [] ∧ ((pm_prime q9 ∧ r = 1) ∨ (¬ pm_prime q9 ∧ r = 0))) := by
  unfold Ci
  refine zs (Qc := zQi D _ _) (cc := cX11_isPrime) (maxL := 3) (ret := (some .boolean)) (by decide) rfl (Nat.le_of_ble_eq_true rfl) ?_
  intro zp ze s zm below meth zc ls A args Q hQ hx hb hr hts hown hlk hml hnm hN hA hK hP hD hS hl
  have q_constant_RX11_173_46337 := hts (.constant RX11 173 (46337)) (by decide +kernel)
  have hl : lv_has ls 3 [(0, .int (iZ (q9)))] := hl
  have hq01 := hq0.1
  have hq02 := hq0.2
  have jz : ∀ (d : Nat) (H : Heap) (locs : List Loc) (ls : Array Slot), (2 ≤ d) → (d ≤ 300) → (¬ pm_prime q9) →  va_P D vwCl [] H → va_D A [] → va_S A s.heap H locs → lv_has ls 3 [(2, .int (iZ (((d : Nat) : Int)))), (1, .int (iZ (0))), (0, .int (iZ (q9)))] → W zp l ze (zRm 0 0) s zm args below meth zc H locs 0 0 Q (F0 zm 19 ls []) := by
    intro d H locs ls hd2 hd3 hnp hP hD hS hl
    have hsq : ((d : Nat) : Int) * ((d : Nat) : Int) = ((d * d : Nat) : Int) := (Int.natCast_mul d d).symm
    have hdm : d * d ≤ 300 * 300 := Nat.mul_le_mul (by omega) (by omega)
    refine lv_iload_n hx hb dX11_isPrime_19 rfl (lv_at hl 0 rfl) ?_
    refine lv_iload_n hx hb dX11_isPrime_20 rfl (lv_at hl 0 rfl) ?_
    refine zr_imul hx hb dX11_isPrime_21 ?_
    refine lv_iload_n hx hb dX11_isPrime_22 rfl (lv_at hl 2 rfl) ?_
    refine zr_icmp_gt hx hb 48 ⟨by rw [hsq]; omega, by rw [hsq]; omega⟩ hq0 dX11_isPrime_23 (by decide) (fun h_23 => ?_) (fun h_23 => ?_)
    · refine lv_iload_n hx hb dX11_isPrime_48 rfl (lv_at hl 1 rfl) ?_
      exact zr_zret hQ hx hb hr hlk dX11_isPrime_49 hK hP hD hS (by omega) (by omega) (by omega) (⟨rfl, Or.inr ⟨hnp, rfl⟩⟩)
    · refine lv_iload_n hx hb dX11_isPrime_26 rfl (lv_at hl 1 rfl) ?_
      refine zr_if_eq hx hb 48 ⟨by omega, by omega⟩ dX11_isPrime_27 (by decide) (fun h_27 => ?_) (fun h_27 => ?_)
      · refine lv_iload_n hx hb dX11_isPrime_48 rfl (lv_at hl 1 rfl) ?_
        exact zr_zret hQ hx hb hr hlk dX11_isPrime_49 hK hP hD hS (by omega) (by omega) (by omega) (⟨rfl, Or.inr ⟨hnp, rfl⟩⟩)
      · exfalso; omega
  have lp : ∀ (t : Nat) (d : Nat) (H : Heap) (locs : List Loc) (ls : Array Slot), (2 ≤ q9) → (q9 ≤ 46337) → (d + t = 217) → (2 ≤ d) → (∀ k : Nat, 2 ≤ k → k < d → q9 % (k : Int) ≠ 0) →  va_P D vwCl [] H → va_D A [] → va_S A s.heap H locs → lv_has ls 3 [(2, .int (iZ (((d : Nat) : Int)))), (1, .int (iZ (1))), (0, .int (iZ (q9)))] → W zp l ze (zRm 0 0) s zm args below meth zc H locs 0 0 Q (F0 zm 19 ls []) := by
    intro t
    induction t with
    | zero =>
      intro d H locs ls hq1 hq2 hdt hd2 hno hP hD hS hl
      have hsq : ((d : Nat) : Int) * ((d : Nat) : Int) = ((d * d : Nat) : Int) := (Int.natCast_mul d d).symm
      have hdm : d * d ≤ 217 * 217 := Nat.mul_le_mul (by omega) (by omega)
      have hdl : 2 * d ≤ d * d := Nat.mul_le_mul_right d hd2
      have hm0 := Int.emod_nonneg q9 (show ((d : Nat) : Int) ≠ 0 by omega)
      have hm1 := Int.emod_lt_of_pos q9 (show (0 : Int) < ((d : Nat) : Int) by omega)
      refine lv_iload_n hx hb dX11_isPrime_19 rfl (lv_at hl 0 rfl) ?_
      refine lv_iload_n hx hb dX11_isPrime_20 rfl (lv_at hl 0 rfl) ?_
      refine zr_imul hx hb dX11_isPrime_21 ?_
      refine lv_iload_n hx hb dX11_isPrime_22 rfl (lv_at hl 2 rfl) ?_
      refine zr_icmp_gt hx hb 48 ⟨by omega, by omega⟩ ⟨by omega, by omega⟩ dX11_isPrime_23 (by decide) (fun h_23 => ?_) (fun h_23 => ?_)
      · refine lv_iload_n hx hb dX11_isPrime_48 rfl (lv_at hl 1 rfl) ?_
        exact zr_zret hQ hx hb hr hlk dX11_isPrime_49 hK hP hD hS (by omega) (by omega) (by omega) (⟨rfl, Or.inl ⟨⟨hq1, hq2, fun k h2 h3 => hno k h2 (by have h4 := Nat.mul_self_le_mul_self_iff (m := d) (n := k); rcases Nat.lt_or_ge k d with w | w; exact w; exfalso; have := h4.mpr w; omega)⟩, rfl⟩⟩)
      · exfalso; have : 217 * 217 ≤ d * d := Nat.mul_le_mul (by omega) (by omega); omega
    | succ t ih =>
      intro d H locs ls hq1 hq2 hdt hd2 hno hP hD hS hl
      have hsq : ((d : Nat) : Int) * ((d : Nat) : Int) = ((d * d : Nat) : Int) := (Int.natCast_mul d d).symm
      have hdm : d * d ≤ 217 * 217 := Nat.mul_le_mul (by omega) (by omega)
      have hdl : 2 * d ≤ d * d := Nat.mul_le_mul_right d hd2
      have hm0 := Int.emod_nonneg q9 (show ((d : Nat) : Int) ≠ 0 by omega)
      have hm1 := Int.emod_lt_of_pos q9 (show (0 : Int) < ((d : Nat) : Int) by omega)
      refine lv_iload_n hx hb dX11_isPrime_19 rfl (lv_at hl 0 rfl) ?_
      refine lv_iload_n hx hb dX11_isPrime_20 rfl (lv_at hl 0 rfl) ?_
      refine zr_imul hx hb dX11_isPrime_21 ?_
      refine lv_iload_n hx hb dX11_isPrime_22 rfl (lv_at hl 2 rfl) ?_
      refine zr_icmp_gt hx hb 48 ⟨by omega, by omega⟩ ⟨by omega, by omega⟩ dX11_isPrime_23 (by decide) (fun h_23 => ?_) (fun h_23 => ?_)
      · refine lv_iload_n hx hb dX11_isPrime_48 rfl (lv_at hl 1 rfl) ?_
        exact zr_zret hQ hx hb hr hlk dX11_isPrime_49 hK hP hD hS (by omega) (by omega) (by omega) (⟨rfl, Or.inl ⟨⟨hq1, hq2, fun k h2 h3 => hno k h2 (by have h4 := Nat.mul_self_le_mul_self_iff (m := d) (n := k); rcases Nat.lt_or_ge k d with w | w; exact w; exfalso; have := h4.mpr w; omega)⟩, rfl⟩⟩)
      · refine lv_iload_n hx hb dX11_isPrime_26 rfl (lv_at hl 1 rfl) ?_
        refine zr_if_eq hx hb 48 ⟨by omega, by omega⟩ dX11_isPrime_27 (by decide) (fun h_27 => ?_) (fun h_27 => ?_)
        · exfalso; omega
        · refine lv_iload_n hx hb dX11_isPrime_30 rfl (lv_at hl 2 rfl) ?_
          refine lv_iload_n hx hb dX11_isPrime_31 rfl (lv_at hl 0 rfl) ?_
          refine zr_irem hx hb ⟨by omega, by omega⟩ ⟨by omega, by omega⟩ (by omega) (by omega) dX11_isPrime_32 ?_
          refine zr_if_eq hx hb 40 ⟨by omega, by omega⟩ dX11_isPrime_33 (by decide) (fun h_33 => ?_) (fun h_33 => ?_)
          · refine lv_iconst (v := iZ 0) hx hb dX11_isPrime_40 rfl ?_
            refine lv_istore_n (lv' := [(1, .int (iZ (0))), (2, .int (iZ (((d : Nat) : Int)))), (0, .int (iZ (q9)))]) hx hb dX11_isPrime_41 rfl hl (by decide) rfl (fun ls hl => ?_)
            refine lv_iinc (v := iZ (((d + 1 : Nat) : Int))) (lv' := [(2, .int (iZ (((d + 1 : Nat) : Int)))), (1, .int (iZ (0))), (0, .int (iZ (q9)))]) hx hb dX11_isPrime_42 hl (k := 1) rfl (by rw [show ((d + 1 : Nat) : Int) = ((d : Nat) : Int) + 1 by omega]; exact iZ_add _ _) (by decide) rfl (fun ls hl => ?_)
            refine lv_goto (tgt := 19) hx hb dX11_isPrime_45 (by decide) ?_
            exact jz (d + 1) H locs ls (by omega) (by omega) (fun h => h.2.2 d hd2 (by omega) (by omega)) hP hD hS (lv_sub hl [0, 1, 2] rfl)
          · refine lv_iconst (v := iZ 1) hx hb dX11_isPrime_36 rfl ?_
            refine lv_goto (tgt := 41) hx hb dX11_isPrime_37 (by decide) ?_
            refine lv_istore_n (lv' := [(1, .int (iZ (1))), (2, .int (iZ (((d : Nat) : Int)))), (0, .int (iZ (q9)))]) hx hb dX11_isPrime_41 rfl hl (by decide) rfl (fun ls hl => ?_)
            refine lv_iinc (v := iZ (((d + 1 : Nat) : Int))) (lv' := [(2, .int (iZ (((d + 1 : Nat) : Int)))), (1, .int (iZ (1))), (0, .int (iZ (q9)))]) hx hb dX11_isPrime_42 hl (k := 1) rfl (by rw [show ((d + 1 : Nat) : Int) = ((d : Nat) : Int) + 1 by omega]; exact iZ_add _ _) (by decide) rfl (fun ls hl => ?_)
            refine lv_goto (tgt := 19) hx hb dX11_isPrime_45 (by decide) ?_
            exact ih (d + 1) H locs ls hq1 hq2 (by omega) (by omega) (fun k h1 h2 => by by_cases w : k = d; (rw [w]; exact h_33); exact hno k h1 (by omega)) hP hD hS (lv_sub hl [0, 1, 2] rfl)
  refine lv_iload_n hx hb dX11_isPrime_0 rfl (lv_at hl 0 rfl) ?_
  refine lv_iconst (v := iZ 2) hx hb dX11_isPrime_1 rfl ?_
  refine zr_icmp_lt hx hb 15 hq0 (by decide) dX11_isPrime_2 (by decide) (fun h_2 => ?_) (fun h_2 => ?_)
  · refine lv_iconst (v := iZ 0) hx hb dX11_isPrime_15 rfl ?_
    refine lv_istore_n (lv' := [(1, .int (iZ (0))), (0, .int (iZ (q9)))]) hx hb dX11_isPrime_16 rfl hl (by decide) rfl (fun ls hl => ?_)
    refine lv_iconst (v := iZ 2) hx hb dX11_isPrime_17 rfl ?_
    refine zr_eqi (((2 : Nat) : Int)) (by rfl) ?_
    refine lv_istore_n (lv' := [(2, .int (iZ (((2 : Nat) : Int)))), (1, .int (iZ (0))), (0, .int (iZ (q9)))]) hx hb dX11_isPrime_18 rfl hl (by decide) rfl (fun ls hl => ?_)
    exact jz 2 s.heap [] ls (by decide) (by decide) (fun h => by have h1 := h.1; have h2 := h.2.1; omega) hP hD hS (lv_sub hl [0, 1, 2] rfl)
  · refine lv_iload_n hx hb dX11_isPrime_5 rfl (lv_at hl 0 rfl) ?_
    refine zr_ldc hx hb 46337 (by decide) hown q_constant_RX11_173_46337 dX11_isPrime_6 ?_
    refine zr_icmp_gt hx hb 15 hq0 (by decide) dX11_isPrime_8 (by decide) (fun h_8 => ?_) (fun h_8 => ?_)
    · refine lv_iconst (v := iZ 0) hx hb dX11_isPrime_15 rfl ?_
      refine lv_istore_n (lv' := [(1, .int (iZ (0))), (0, .int (iZ (q9)))]) hx hb dX11_isPrime_16 rfl hl (by decide) rfl (fun ls hl => ?_)
      refine lv_iconst (v := iZ 2) hx hb dX11_isPrime_17 rfl ?_
      refine zr_eqi (((2 : Nat) : Int)) (by rfl) ?_
      refine lv_istore_n (lv' := [(2, .int (iZ (((2 : Nat) : Int)))), (1, .int (iZ (0))), (0, .int (iZ (q9)))]) hx hb dX11_isPrime_18 rfl hl (by decide) rfl (fun ls hl => ?_)
      exact jz 2 s.heap [] ls (by decide) (by decide) (fun h => by have h1 := h.1; have h2 := h.2.1; omega) hP hD hS (lv_sub hl [0, 1, 2] rfl)
    · refine lv_iconst (v := iZ 1) hx hb dX11_isPrime_11 rfl ?_
      refine lv_goto (tgt := 16) hx hb dX11_isPrime_12 (by decide) ?_
      refine lv_istore_n (lv' := [(1, .int (iZ (1))), (0, .int (iZ (q9)))]) hx hb dX11_isPrime_16 rfl hl (by decide) rfl (fun ls hl => ?_)
      refine lv_iconst (v := iZ 2) hx hb dX11_isPrime_17 rfl ?_
      refine zr_eqi (((2 : Nat) : Int)) (by rfl) ?_
      refine lv_istore_n (lv' := [(2, .int (iZ (((2 : Nat) : Int)))), (1, .int (iZ (1))), (0, .int (iZ (q9)))]) hx hb dX11_isPrime_18 rfl hl (by decide) rfl (fun ls hl => ?_)
      exact lp 215 2 s.heap [] ls (by omega) (by omega) (by omega) (by decide) (fun k h1 h2 => by omega) hP hD hS (lv_sub hl [0, 1, 2] rfl)

set_option maxHeartbeats 4000000 in
set_option maxRecDepth 100000 in
/-- Model.power -/
theorem c_mpower (l : Launch) (D : va_G) (cI cJ cE cF cR : ClassId) (a9 q9 : Int) (e9 : Nat) (hq1 : 2 ≤ q9) (hq2 : q9 ≤ 46337) (ha0 : 0 ≤ a9 ∧ a9 < q9) (he31 : e9 < 2 ^ 31) : Cl l D (zty cI cJ cE cF cR) yX11_power wsX11_power (zRm 0 0) 0 0 [.long (lZ (a9)), .int (iZ (((e9 : Nat) : Int))), .int (iZ (q9))] [] (fun r w1 => w1 = [] ∧ r = a9 ^ e9 % q9) := by
  unfold Cl
  refine zs (Qc := zQl D _ _) (cc := cX11_power) (maxL := 7) (ret := (some .long)) (by decide) rfl (Nat.le_of_ble_eq_true rfl) ?_
  intro zp ze s zm below meth zc ls A args Q hQ hx hb hr hts hown hlk hml hnm hN hA hK hP hD hS hl
  have hl : lv_has ls 7 [(0, .long (lZ (a9))), (2, .int (iZ (((e9 : Nat) : Int)))), (3, .int (iZ (q9)))] := hl
  have lp : ∀ (t : Nat) (b : Nat) (v : Int) (H : Heap) (locs : List Loc) (ls : Array Slot), (b = t) → (b ≤ 31) → (v = a9 ^ (e9 / 2 ^ b) % q9) → (0 ≤ v ∧ v < q9) →  va_P D vwCl [] H → va_D A [] → va_S A s.heap H locs → lv_has ls 7 [(6, .int (iZ (((b : Nat) : Int) - 1))), (4, .long (lZ (v))), (0, .long (lZ (a9))), (2, .int (iZ (((e9 : Nat) : Int)))), (3, .int (iZ (q9)))] → W zp l ze (zRm 0 0) s zm args below meth zc H locs 0 0 Q (F0 zm 7 ls []) := by
    intro t
    induction t with
    | zero =>
      intro b v H locs ls hbt hb31 hv hv0 hP hD hS hl
      refine lv_iload hx hb dX11_power_7 (lv_at hl 0 rfl) ?_
      refine zr_if_lt hx hb 47 ⟨by omega, by omega⟩ dX11_power_9 (by decide) (fun h_9 => ?_) (fun h_9 => ?_)
      · refine lv_lload hx hb dX11_power_47 (lv_at hl 1 rfl) ?_
        exact zr_lret hQ hx hb hr hlk dX11_power_49 hK hP hD hS (by omega) (by omega) ⟨by omega, by omega⟩ (⟨rfl, by rw [hv, show b = 0 by omega, Nat.pow_zero, Nat.div_one]⟩)
      · exfalso; omega
    | succ t ih =>
      intro b v H locs ls hbt hb31 hv hv0 hP hD hS hl
      refine lv_iload hx hb dX11_power_7 (lv_at hl 0 rfl) ?_
      refine zr_if_lt hx hb 47 ⟨by omega, by omega⟩ dX11_power_9 (by decide) (fun h_9 => ?_) (fun h_9 => ?_)
      · exfalso; omega
      · have hvv := pm_mul (a := v) (b := v) hv0.1 (by omega) hv0.1 (by omega)
        have hw0 := Int.emod_nonneg (v * v) (show q9 ≠ 0 by omega)
        have hw1 := Int.emod_lt_of_pos (v * v) (show 0 < q9 by omega)
        have hva := pm_mul (a := v * v % q9) (b := a9) hw0 (by omega) ha0.1 (by omega)
        have hlt2 : 0 ≤ ((e9 : Nat) : Int) / 2 ^ (b - 1) % 2 ^ 1 ∧ ((e9 : Nat) : Int) / 2 ^ (b - 1) % 2 ^ 1 < 2 := ⟨Int.emod_nonneg _ (by decide), Int.emod_lt_of_pos _ (by decide)⟩
        refine lv_lload hx hb dX11_power_12 (lv_at hl 1 rfl) ?_
        refine lv_lload hx hb dX11_power_14 (lv_at hl 1 rfl) ?_
        refine zr_lmul hx hb dX11_power_16 ?_
        refine lv_iload_n hx hb dX11_power_17 rfl (lv_at hl 4 rfl) ?_
        refine zr_i2l hx hb ⟨by omega, by omega⟩ dX11_power_18 ?_
        refine zr_lrem hx hb ⟨by omega, by omega⟩ ⟨by omega, by omega⟩ (by omega) (by omega) dX11_power_19 ?_
        refine lv_lstore (lv' := [(4, .long (lZ (((v) * (v)) % (q9)))), (6, .int (iZ (((b : Nat) : Int) - 1))), (0, .long (lZ (a9))), (2, .int (iZ (((e9 : Nat) : Int)))), (3, .int (iZ (q9)))]) hx hb dX11_power_20 hl (by decide) rfl (fun ls hl => ?_)
        refine lv_iload_n hx hb dX11_power_22 rfl (lv_at hl 3 rfl) ?_
        refine lv_iload hx hb dX11_power_23 (lv_at hl 1 rfl) ?_
        refine zr_eqi (((b - 1 : Nat) : Int)) (by omega) ?_
        refine zr_ishr (k := b - 1) hx hb ⟨by omega, by omega⟩ (by omega) dX11_power_25 ?_
        refine lv_iconst (v := iZ 1) hx hb dX11_power_26 rfl ?_
        refine zr_iand hx hb 1 (by decide) (by decide) dX11_power_27 ?_
        refine lv_iconst (v := iZ 1) hx hb dX11_power_28 rfl ?_
        refine zr_icmp_ne hx hb 41 ⟨by have := hlt2; omega, by have := hlt2; omega⟩ (by decide) dX11_power_29 (by decide) (fun h_29 => ?_) (fun h_29 => ?_)
        · refine lv_iinc (v := iZ (((b - 1 : Nat) : Int) - 1)) (lv' := [(6, .int (iZ (((b - 1 : Nat) : Int) - 1))), (4, .long (lZ (((v) * (v)) % (q9)))), (0, .long (lZ (a9))), (2, .int (iZ (((e9 : Nat) : Int)))), (3, .int (iZ (q9)))]) hx hb dX11_power_41 hl (k := 1) rfl (by rw [show ((b - 1 : Nat) : Int) - 1 = (((b : Nat) : Int) - 1) + (-1) by omega]; exact iZ_add _ _) (by decide) rfl (fun ls hl => ?_)
          refine lv_goto (tgt := 7) hx hb dX11_power_44 (by decide) ?_
          exact ih (b - 1) _ H locs ls (by omega) (by omega) ((pm_pw (by omega) hv).1 (by omega)) ⟨Int.emod_nonneg _ (by omega), Int.emod_lt_of_pos _ (by omega)⟩ hP hD hS (lv_sub hl [0, 1, 2, 3, 4] rfl)
        · refine lv_lload hx hb dX11_power_32 (lv_at hl 0 rfl) ?_
          refine lv_lload_n hx hb dX11_power_34 rfl (lv_at hl 2 rfl) ?_
          refine zr_lmul hx hb dX11_power_35 ?_
          refine lv_iload_n hx hb dX11_power_36 rfl (lv_at hl 4 rfl) ?_
          refine zr_i2l hx hb ⟨by omega, by omega⟩ dX11_power_37 ?_
          refine zr_lrem hx hb ⟨by omega, by omega⟩ ⟨by omega, by omega⟩ (by omega) (by omega) dX11_power_38 ?_
          refine lv_lstore (lv' := [(4, .long (lZ (((((v) * (v)) % (q9)) * (a9)) % (q9)))), (6, .int (iZ (((b : Nat) : Int) - 1))), (0, .long (lZ (a9))), (2, .int (iZ (((e9 : Nat) : Int)))), (3, .int (iZ (q9)))]) hx hb dX11_power_39 hl (by decide) rfl (fun ls hl => ?_)
          refine lv_iinc (v := iZ (((b - 1 : Nat) : Int) - 1)) (lv' := [(6, .int (iZ (((b - 1 : Nat) : Int) - 1))), (4, .long (lZ (((((v) * (v)) % (q9)) * (a9)) % (q9)))), (0, .long (lZ (a9))), (2, .int (iZ (((e9 : Nat) : Int)))), (3, .int (iZ (q9)))]) hx hb dX11_power_41 hl (k := 1) rfl (by rw [show ((b - 1 : Nat) : Int) - 1 = (((b : Nat) : Int) - 1) + (-1) by omega]; exact iZ_add _ _) (by decide) rfl (fun ls hl => ?_)
          refine lv_goto (tgt := 7) hx hb dX11_power_44 (by decide) ?_
          exact ih (b - 1) _ H locs ls (by omega) (by omega) ((pm_pw (by omega) hv).2 (by omega)) ⟨Int.emod_nonneg _ (by omega), Int.emod_lt_of_pos _ (by omega)⟩ hP hD hS (lv_sub hl [0, 1, 2, 3, 4] rfl)
  refine lv_lconst (v := lZ 1) hx hb dX11_power_0 rfl ?_
  refine lv_lstore (lv' := [(4, .long (lZ (1))), (0, .long (lZ (a9))), (2, .int (iZ (((e9 : Nat) : Int)))), (3, .int (iZ (q9)))]) hx hb dX11_power_1 hl (by decide) rfl (fun ls hl => ?_)
  refine lv_bipush (v := iZ 30) hx hb dX11_power_3 (by decide) ?_
  refine zr_eqi (((31 : Nat) : Int) - 1) (by rfl) ?_
  refine lv_istore (lv' := [(6, .int (iZ (((31 : Nat) : Int) - 1))), (4, .long (lZ (1))), (0, .long (lZ (a9))), (2, .int (iZ (((e9 : Nat) : Int)))), (3, .int (iZ (q9)))]) hx hb dX11_power_5 hl (by decide) rfl (fun ls hl => ?_)
  exact lp 31 31 1 s.heap [] ls rfl (by decide) (by rw [Nat.div_eq_of_lt he31, Int.pow_zero, Int.emod_eq_of_lt (by decide) (by omega)]) ⟨by decide, by omega⟩ hP hD hS (lv_sub hl [0, 1, 2, 3, 4] rfl)

set_option maxHeartbeats 4000000 in
set_option maxRecDepth 100000 in
/-- Model.rest -/
theorem c_mrest (l : Launch) (D : va_G) (cI cJ cE cF cR : ClassId) (mo fg le sg tp bl pr rs nn : Nat) (dn sv rk tn ms th : Int) (s9 : Nat) (q9 v9 : Int) (F Ln : Nat → Int) (hq1 : 2 ≤ q9) (hq2 : q9 ≤ 46337) (hs9 : s9 < 188) (hvs : md_n F Ln s9 v9) : Cl l D (zty cI cJ cE cF cR) yX11_rest wsX11_rest (zRm 1 30) 0 0 [.ref (mo), .int (iZ (((s9 : Nat) : Int))), .int (iZ (q9))] [(mo, mo_ fg le sg tp bl pr rs (((nn : Nat) : Int)) (dn) (sv) (rk) (tn) (ms) (th)), (fg, aI cI (52200) (F)), (le, aI cI (190) (Ln))] (fun r w1 => w1 = [(mo, mo_ fg le sg tp bl pr rs (((nn : Nat) : Int)) (dn) (sv) (rk) (tn) (ms) (th)), (fg, aI cI (52200) (F)), (le, aI cI (190) (Ln))] ∧ r = v9 % q9) := by
  unfold Cl
  refine zs (Qc := zQl D _ _) (cc := cX11_rest) (maxL := 6) (ret := (some .long)) (by decide) rfl (Nat.le_of_ble_eq_true rfl) ?_
  intro zp ze s zm below meth zc ls A args Q hQ hx hb hr hts hown hlk hml hnm hN hA hK hP hD hS hl
  have q_constantLong_RX11_47_65536 := hts (.constantLong RX11 47 (65536)) (by decide +kernel)
  have q_f_RX11_8_LimbSolverModel_figure_I := hts (.fieldLink RX11 8 "LimbSolverModel" "figure" "[I") (by decide +kernel)
  have hin11 : ∀ w ∈ wsX110, w ∈ wsX11_rest := by decide +kernel
  have q_f_RX11_14_LimbSolverModel_length_I := hts (.fieldLink RX11 14 "LimbSolverModel" "length" "[I") (by decide +kernel)
  have hl : lv_has ls 6 [(0, .ref (mo)), (1, .int (iZ (((s9 : Nat) : Int)))), (2, .int (iZ (q9)))] := hl
  obtain ⟨k9, hk9, hok⟩ := hvs
  have hkc0 := hok.1
  have hcb0 := mdC_b s9
  have lp : ∀ (t : Nat) (b : Nat) (v : Int) (H : Heap) (locs : List Loc) (ls : Array Slot), (b = t) → (b ≤ k9) → (v = hx_val (fun i => (fun i => F (mdA s9 + i)) (b + i)) (k9 - b) % q9) → (0 ≤ v ∧ v < q9) →  va_P D vwCl [(mo, mo_ fg le sg tp bl pr rs (((nn : Nat) : Int)) (dn) (sv) (rk) (tn) (ms) (th)), (fg, aI cI (52200) (F)), (le, aI cI (190) (Ln))] H → va_D A [(mo, mo_ fg le sg tp bl pr rs (((nn : Nat) : Int)) (dn) (sv) (rk) (tn) (ms) (th)), (fg, aI cI (52200) (F)), (le, aI cI (190) (Ln))] → va_S A s.heap H locs → lv_has ls 6 [(5, .int (iZ (((b : Nat) : Int) - 1))), (3, .long (lZ (v))), (0, .ref (mo)), (1, .int (iZ (((s9 : Nat) : Int)))), (2, .int (iZ (q9)))] → W zp l ze (zRm 1 30) s zm args below meth zc H locs 0 0 Q (F0 zm 12 ls []) := by
    intro t
    induction t with
    | zero =>
      intro b v H locs ls hbt hbk hv hv0 hP hD hS hl
      refine lv_iload hx hb dX11_rest_12 (lv_at hl 0 rfl) ?_
      refine zr_if_lt hx hb 46 ⟨by omega, by omega⟩ dX11_rest_14 (by decide) (fun h_14 => ?_) (fun h_14 => ?_)
      · refine lv_lload_n hx hb dX11_rest_46 rfl (lv_at hl 1 rfl) ?_
        exact zr_lret hQ hx hb hr hlk dX11_rest_47 hK hP hD hS (by omega) (by omega) ⟨by omega, by omega⟩ (⟨rfl, by rw [hv, ← hok.2.2.2, show b = 0 by omega]; congr 1; show hx_val (fun i => F (mdA s9 + (0 + i))) (k9 - 0) = _; rw [Nat.sub_zero]; exact hx_val_congr (fun i _ => by rw [Nat.zero_add])⟩)
      · exfalso; omega
    | succ t ih =>
      intro b v H locs ls hbt hbk hv hv0 hP hD hS hl
      refine lv_iload hx hb dX11_rest_12 (lv_at hl 0 rfl) ?_
      refine zr_if_lt hx hb 46 ⟨by omega, by omega⟩ dX11_rest_14 (by decide) (fun h_14 => ?_) (fun h_14 => ?_)
      · exfalso; omega
      · have hdg := hok.2.1 (b - 1) (by omega)
        dsimp only at hdg
        have hkc := hok.1
        have hcb := mdA_b hs9
        refine lv_lload_n hx hb dX11_rest_17 rfl (lv_at hl 1 rfl) ?_
        refine zr_ldc2 hx hb 65536 (by decide) hown q_constantLong_RX11_47_65536 dX11_rest_18 ?_
        refine zr_lmul hx hb dX11_rest_21 ?_
        refine lv_aload_n hx hb dX11_rest_22 rfl (lv_at hl 2 rfl) ?_
        refine va_get (D := D) (ci := 11) (v := .ref (fg)) (C := RX11) (T := TX11) (N := 14) hx hb hts hin11 hown hK hP 0 rfl rfl 0 (by decide) q_f_RX11_8_LimbSolverModel_figure_I (fun _ h9 => h9) rfl dX11_rest_23 ?_
        refine lv_iload_n hx hb dX11_rest_26 rfl (lv_at hl 3 rfl) ?_
        refine zc_Si (As := [.int (iZ (((s9 : Nat) : Int)))]) (rest := [.ref (fg), .long (lZ ((v) * (65536)))]) (wr := [(mo, mo_ fg le sg tp bl pr rs (((nn : Nat) : Int)) (dn) (sv) (rk) (tn) (ms) (th)), (fg, aI cI (52200) (F)), (le, aI cI (190) (Ln))]) ⟨hx, hb, hml, hown, hts⟩ (c_at l D cI cJ cE cF cR s9 (by omega)) (va_cwS 1 hts gX11_rest_X11_at rfl rfl rfl (by decide +kernel) ⟨Nat.le_of_ble_eq_true rfl, Nat.le_of_ble_eq_true rfl⟩) hN hK hP hD hS hA [] [0, 1, 2] rfl rfl (by decide) (by decide) (by decide) rfl hl.1 (Nat.le_of_ble_eq_true rfl) dX11_rest_27 ⟨by decide, by decide⟩ (fun z27 w1 H locs hz27 hp hP hD hS => ?_)
        obtain ⟨hw9, hr0⟩ := hp
        subst hw9
        subst hr0
        have hP := hP.sub (ws' := [(mo, mo_ fg le sg tp bl pr rs (((nn : Nat) : Int)) (dn) (sv) (rk) (tn) (ms) (th)), (fg, aI cI (52200) (F)), (le, aI cI (190) (Ln))]) [0, 1, 2] rfl
        have hD := hD.sub (ws' := [(mo, mo_ fg le sg tp bl pr rs (((nn : Nat) : Int)) (dn) (sv) (rk) (tn) (ms) (th)), (fg, aI cI (52200) (F)), (le, aI cI (190) (Ln))]) [0, 1, 2] (by decide) rfl
        refine lv_iload hx hb dX11_rest_30 (lv_at hl 0 rfl) ?_
        refine zr_iadd hx hb dX11_rest_32 ?_
        refine zr_eqi (((mdA s9 + (b - 1) : Nat) : Int)) (by omega) ?_
        refine zr_iald hx hb hK hP 1 0 rfl rfl (mdA s9 + (b - 1)) (by omega) (by omega) (by omega) dX11_rest_33 ?_
        refine zr_i2l hx hb ⟨by omega, by omega⟩ dX11_rest_34 ?_
        refine zr_ladd hx hb dX11_rest_35 ?_
        refine lv_iload_n hx hb dX11_rest_36 rfl (lv_at hl 4 rfl) ?_
        refine zr_i2l hx hb ⟨by omega, by omega⟩ dX11_rest_37 ?_
        refine zr_lrem hx hb ⟨by omega, by omega⟩ ⟨by omega, by omega⟩ (by omega) (by omega) dX11_rest_38 ?_
        refine lv_lstore_n (lv' := [(3, .long (lZ ((((v) * (65536)) + ((F) (mdA s9 + (b - 1)))) % (q9)))), (5, .int (iZ (((b : Nat) : Int) - 1))), (0, .ref (mo)), (1, .int (iZ (((s9 : Nat) : Int)))), (2, .int (iZ (q9)))]) hx hb dX11_rest_39 rfl hl (by decide) rfl (fun ls hl => ?_)
        refine lv_iinc (v := iZ (((b - 1 : Nat) : Int) - 1)) (lv' := [(5, .int (iZ (((b - 1 : Nat) : Int) - 1))), (3, .long (lZ ((((v) * (65536)) + ((F) (mdA s9 + (b - 1)))) % (q9)))), (0, .ref (mo)), (1, .int (iZ (((s9 : Nat) : Int)))), (2, .int (iZ (q9)))]) hx hb dX11_rest_40 hl (k := 1) rfl (by rw [show ((b - 1 : Nat) : Int) - 1 = (((b : Nat) : Int) - 1) + (-1) by omega]; exact iZ_add _ _) (by decide) rfl (fun ls hl => ?_)
        refine lv_goto (tgt := 12) hx hb dX11_rest_43 (by decide) ?_
        exact ih (b - 1) _ H locs ls (by omega) (by omega) (pm_hx (g := (fun i => F (mdA s9 + i))) (by omega) hbk hv) ⟨Int.emod_nonneg _ (by omega), Int.emod_lt_of_pos _ (by omega)⟩ hP hD hS (lv_sub hl [0, 1, 2, 3, 4] rfl)
  refine lv_lconst (v := lZ 0) hx hb dX11_rest_0 rfl ?_
  refine lv_lstore_n (lv' := [(3, .long (lZ (0))), (0, .ref (mo)), (1, .int (iZ (((s9 : Nat) : Int)))), (2, .int (iZ (q9)))]) hx hb dX11_rest_1 rfl hl (by decide) rfl (fun ls hl => ?_)
  refine lv_aload_n hx hb dX11_rest_2 rfl (lv_at hl 1 rfl) ?_
  refine va_get (D := D) (ci := 11) (v := .ref (le)) (C := RX11) (T := TX11) (N := 14) hx hb hts hin11 hown hK hP 0 rfl rfl 1 (by decide) q_f_RX11_14_LimbSolverModel_length_I (fun _ h9 => h9) rfl dX11_rest_3 ?_
  refine lv_iload_n hx hb dX11_rest_6 rfl (lv_at hl 2 rfl) ?_
  refine zr_iald hx hb hK hP 2 0 rfl rfl (s9) (by omega) (by omega) (by omega) dX11_rest_7 ?_
  refine zr_eqi (((k9 : Nat) : Int)) hk9 ?_
  refine lv_iconst (v := iZ 1) hx hb dX11_rest_8 rfl ?_
  refine zr_isub hx hb dX11_rest_9 ?_
  refine zr_eqi (((k9 : Nat) : Int) - 1) (by rfl) ?_
  refine lv_istore (lv' := [(5, .int (iZ (((k9 : Nat) : Int) - 1))), (3, .long (lZ (0))), (0, .ref (mo)), (1, .int (iZ (((s9 : Nat) : Int)))), (2, .int (iZ (q9)))]) hx hb dX11_rest_10 hl (by decide) rfl (fun ls hl => ?_)
  exact lp k9 k9 0 s.heap [] ls rfl (Nat.le_refl _) (by rw [Nat.sub_self]; rfl) ⟨by decide, by omega⟩ hP hD hS (lv_sub hl [0, 1, 2, 3, 4] rfl)
