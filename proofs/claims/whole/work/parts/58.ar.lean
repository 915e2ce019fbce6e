
def pAr (cI : ClassId) (ad : Nat → Nat) (G : Nat → va_E) : Prop := G 6 = .inr (0, [.ref (ad 7), .ref (ad 10), .ref (ad 19), .ref (ad 21), .ref (ad 23), .ref (ad 25), .ref (ad 27), .ref (ad 29), .ref (ad 31)]) ∧ pEu cI ad G ∧ pHas cI ad G 19 96 ∧ pHas cI ad G 21 96 ∧ pHas cI ad G 23 96 ∧ pHas cI ad G 25 96 ∧ pHas cI ad G 27 96 ∧ pHas cI ad G 29 96 ∧ pHas cI ad G 31 96
theorem pAr.keep {cI : ClassId} {ad : Nat → Nat} {G G' : Nat → va_E} (h : pAr cI ad G) (hk : ∀ k : Nat, 6 ≤ k → k ≤ 32 → G' k = G k) : pAr cI ad G' := by
  obtain ⟨h0, h1, h2, h3, h4, h5, h6, h7, h8⟩ := h
  exact ⟨(hk 6 (by omega) (by omega)).trans h0, h1.keep (fun k a b => hk k (by omega) (by omega)), h2.keep (hk _ (by omega) (by omega)) (hk _ (by omega) (by omega)), h3.keep (hk _ (by omega) (by omega)) (hk _ (by omega) (by omega)), h4.keep (hk _ (by omega) (by omega)) (hk _ (by omega) (by omega)), h5.keep (hk _ (by omega) (by omega)) (hk _ (by omega) (by omega)), h6.keep (hk _ (by omega) (by omega)) (hk _ (by omega) (by omega)), h7.keep (hk _ (by omega) (by omega)) (hk _ (by omega) (by omega)), h8.keep (hk _ (by omega) (by omega)) (hk _ (by omega) (by omega))⟩
/-- an entry, a fraction -/
def pEn (cI : ClassId) (ad : Nat → Nat) (G : Nat → va_E) (k room : Nat) (z : Int) : Prop := G k = .inr (3, [.ref (ad (k + 1)), .int (iZ z.sign)]) ∧ pWh cI ad G (k + 1) room (z.natAbs : Int)
def pFr (cI : ClassId) (ad : Nat → Nat) (G : Nat → va_E) (k room : Nat) (x : Rat) : Prop := G k = .inr (6, [.ref (ad (k + 1)), .ref (ad (k + 3)), .int (iZ x.num.sign)]) ∧ pWh cI ad G (k + 1) room (x.num.natAbs : Int) ∧ pWh cI ad G (k + 3) room (x.den : Int)
def pFh (cI : ClassId) (ad : Nat → Nat) (G : Nat → va_E) (k room : Nat) : Prop := (∃ s : Int, G k = .inr (6, [.ref (ad (k + 1)), .ref (ad (k + 3)), .int (iZ s)])) ∧ pHas cI ad G (k + 1) room ∧ pHas cI ad G (k + 3) room
def pEh (cI : ClassId) (ad : Nat → Nat) (G : Nat → va_E) (k room : Nat) : Prop := (∃ s : Int, G k = .inr (3, [.ref (ad (k + 1)), .int (iZ s)])) ∧ pHas cI ad G (k + 1) room
theorem pEn.has {cI : ClassId} {ad : Nat → Nat} {G : Nat → va_E} {k room : Nat} {z : Int} (h : pEn cI ad G k room z) : pEh cI ad G k room := ⟨⟨_, h.1⟩, h.2.has⟩
theorem pFr.has {cI : ClassId} {ad : Nat → Nat} {G : Nat → va_E} {k room : Nat} {x : Rat} (h : pFr cI ad G k room x) : pFh cI ad G k room := ⟨⟨_, h.1⟩, h.2.1.has, h.2.2.has⟩
theorem pEn.keep {cI : ClassId} {ad : Nat → Nat} {G G' : Nat → va_E} {k room : Nat} {z : Int} (h : pEn cI ad G k room z) (hk : ∀ i : Nat, k ≤ i → i ≤ k + 2 → G' i = G i) : pEn cI ad G' k room z := ⟨(hk k (by omega) (by omega)).trans h.1, h.2.keep (hk _ (by omega) (by omega)) (hk _ (by omega) (by omega))⟩
theorem pEh.keep {cI : ClassId} {ad : Nat → Nat} {G G' : Nat → va_E} {k room : Nat} (h : pEh cI ad G k room) (hk : ∀ i : Nat, k ≤ i → i ≤ k + 2 → G' i = G i) : pEh cI ad G' k room := by
  obtain ⟨⟨s, h1⟩, h2⟩ := h
  exact ⟨⟨s, (hk k (by omega) (by omega)).trans h1⟩, h2.keep (hk _ (by omega) (by omega)) (hk _ (by omega) (by omega))⟩
theorem pFr.keep {cI : ClassId} {ad : Nat → Nat} {G G' : Nat → va_E} {k room : Nat} {x : Rat} (h : pFr cI ad G k room x) (hk : ∀ i : Nat, k ≤ i → i ≤ k + 4 → G' i = G i) : pFr cI ad G' k room x := ⟨(hk k (by omega) (by omega)).trans h.1, h.2.1.keep (hk _ (by omega) (by omega)) (hk _ (by omega) (by omega)), h.2.2.keep (hk _ (by omega) (by omega)) (hk _ (by omega) (by omega))⟩
theorem pFh.keep {cI : ClassId} {ad : Nat → Nat} {G G' : Nat → va_E} {k room : Nat} (h : pFh cI ad G k room) (hk : ∀ i : Nat, k ≤ i → i ≤ k + 4 → G' i = G i) : pFh cI ad G' k room := by
  obtain ⟨⟨s, h1⟩, h2, h3⟩ := h
  exact ⟨⟨s, (hk k (by omega) (by omega)).trans h1⟩, h2.keep (hk _ (by omega) (by omega)) (hk _ (by omega) (by omega)), h3.keep (hk _ (by omega) (by omega)) (hk _ (by omega) (by omega))⟩
theorem sg_iR (z : Int) : z.sign = -1 ∨ z.sign = 0 ∨ z.sign = 1 := by
  rcases Int.lt_trichotomy z 0 with h | h | h
  · exact Or.inl (Int.sign_eq_neg_one_of_neg h)
  · exact Or.inr (Or.inl (by rw [h]; rfl))
  · exact Or.inr (Or.inr (Int.sign_eq_one_of_pos h))
/-- the fraction of a whole number and a denominator -/
theorem pr_red {z ds v : Int} (hds : ds = 1 ∨ ds = -1) (hv : 0 < v) {x : Rat} (hx : x = (z : Rat) / ((ds * v : Int) : Rat)) : (x.num.natAbs : Int) = (z.natAbs : Int) / ((Int.gcd (z.natAbs : Int) v : Nat) : Int) ∧ (x.den : Int) = v / ((Int.gcd (z.natAbs : Int) v : Nat) : Int) ∧ x.num.sign = z.sign * ds := by
  have hd0 : ds * v ≠ 0 := by rcases hds with q | q <;> rw [q] <;> omega
  have hna : (ds * v).natAbs = v.natAbs := by rcases hds with q | q <;> rw [q] <;> omega
  have e : x = mkRat (if ds * v < 0 then -z else z) (ds * v).natAbs := by
    rw [hx, Rat.mkRat_eq_div, hna]
    have e2 : ((v.natAbs : Nat) : Rat) = (v : Rat) := by
      rw [← Rat.intCast_natCast, Int.natAbs_of_nonneg (Int.le_of_lt hv)]
    rw [e2]
    rcases hds with q | q
    · rw [q, Int.one_mul, if_neg (by omega)]
    · rw [q, if_pos (by omega), Rat.intCast_neg, Rat.intCast_mul]
      have hvr : (v : Rat) ≠ 0 := pe_ne_z (by omega)
      generalize (v : Rat) = a at *
      generalize (z : Rat) = b at *
      have : (((-1 : Int)) : Rat) = -1 := rfl
      rw [this]
      grind
  have h := md_set hd0 x e
  rw [hna] at h
  have g : Int.gcd (z.natAbs : Int) v = Nat.gcd z.natAbs v.natAbs := rfl
  have hvn : v = (v.natAbs : Int) := by omega
  refine ⟨by rw [h.1, g]; rfl, by rw [h.2.1, g]; exact (congrArg (fun y => y / ((Nat.gcd z.natAbs v.natAbs : Nat) : Int)) hvn).symm ▸ rfl, ?_⟩
  rcases h.2.2 with ⟨q1, q2⟩ | ⟨q1, q2, q3⟩ | ⟨q1, q2, q3⟩
  · rw [q2, q1]; simp
  · rw [q3]
    rcases hds with w | w <;> rw [w] at q1 ⊢
    · have : 0 < z := by omega
      rw [Int.sign_eq_one_of_pos this]; rfl
    · have : z < 0 := by omega
      rw [Int.sign_eq_neg_one_of_neg this]; rfl
  · rw [q3]
    rcases hds with w | w <;> rw [w] at q1 ⊢
    · have : z < 0 := by omega
      rw [Int.sign_eq_neg_one_of_neg this]; rfl
    · have : 0 < z := by omega
      rw [Int.sign_eq_one_of_pos this]; rfl
theorem pr_mul_num (a b : Rat) : (a * b).num.natAbs = a.num.natAbs / Nat.gcd a.num.natAbs b.den * (b.num.natAbs / Nat.gcd b.num.natAbs a.den) := by
  have e : (a * b).num = a.num / (Nat.gcd a.num.natAbs b.den : Int) * (b.num / (Nat.gcd b.num.natAbs a.den : Int)) := by
    show (Rat.mul a b).num = _
    rw [Rat.mul]
    simp
  rw [e, Int.natAbs_mul, Int.natAbs_ediv_of_dvd (Int.ofNat_dvd_left.mpr (Nat.gcd_dvd_left _ _)), Int.natAbs_ediv_of_dvd (Int.ofNat_dvd_left.mpr (Nat.gcd_dvd_left _ _))]
  rfl
theorem pr_mul_den (a b : Rat) : (a * b).den = (a.den / Nat.gcd b.num.natAbs a.den) * (b.den / Nat.gcd a.num.natAbs b.den) := by
  show (Rat.mul a b).den = _
  rw [Rat.mul]
  simp
theorem pr_mul_sg (a b : Rat) : (a * b).num.sign = a.num.sign * b.num.sign := by
  by_cases h : a.num.natAbs * b.num.natAbs = 0
  · rcases Nat.mul_eq_zero.mp h with q | q
    · have : a = 0 := Rat.num_eq_zero.mp (Int.natAbs_eq_zero.mp q)
      rw [this, Rat.zero_mul]; simp
    · have : b = 0 := Rat.num_eq_zero.mp (Int.natAbs_eq_zero.mp q)
      rw [this, Rat.mul_zero]; simp
  · have hs := md_prs h
    have := md_low hs (Nat.mul_pos a.den_pos b.den_pos) (Nat.pos_of_ne_zero h)
    rw [md_mul] at this
    exact this.2.2

theorem pr_dl (a b : Nat) : (a : Int) / ((Int.gcd (a : Int) (b : Int) : Nat) : Int) ≤ (a : Int) := Int.ediv_le_self _ (Int.natCast_nonneg a)
theorem pr_dl2 (a b : Nat) : (b : Int) / ((Int.gcd (a : Int) (b : Int) : Nat) : Int) ≤ (b : Int) := Int.ediv_le_self _ (Int.natCast_nonneg b)
theorem pr_mn (a b : Rat) : ((a * b).num.natAbs : Int) = (a.num.natAbs : Int) / ((Int.gcd (a.num.natAbs : Int) (b.den : Int) : Nat) : Int) * ((b.num.natAbs : Int) / ((Int.gcd (b.num.natAbs : Int) (a.den : Int) : Nat) : Int)) := by
  rw [pr_mul_num, Int.natCast_mul]
  rfl
theorem pr_md (a b : Rat) : ((a * b).den : Int) = (a.den : Int) / ((Int.gcd (b.num.natAbs : Int) (a.den : Int) : Nat) : Int) * ((b.den : Int) / ((Int.gcd (a.num.natAbs : Int) (b.den : Int) : Nat) : Int)) := by
  rw [pr_mul_den, Int.natCast_mul]
  rfl

theorem pr_s0 {z : Int} (h : z.sign = 0) : z = 0 := Int.sign_eq_zero_iff_zero.mp h
theorem pr_sgn (z : Int) : (z < 0 ∧ z.sign = -1) ∨ (z = 0 ∧ z.sign = 0) ∨ (0 < z ∧ z.sign = 1) := by
  rcases Int.lt_trichotomy z 0 with h | h | h
  · exact Or.inl ⟨h, Int.sign_eq_neg_one_of_neg h⟩
  · exact Or.inr (Or.inl ⟨h, by rw [h]; rfl⟩)
  · exact Or.inr (Or.inr ⟨h, Int.sign_eq_one_of_pos h⟩)
theorem pr_op {a b : Int} (hb : b.sign ≠ 0) (ha : a.sign ≠ 0) (h : a.sign ≠ b.sign) : a.sign = (a - b).sign ∧ ((a - b).natAbs : Int) = (a.natAbs : Int) + (b.natAbs : Int) := by
  have h1 := pr_sgn a
  have h2 := pr_sgn b
  have h3 := pr_sgn (a - b)
  exact ⟨by omega, by omega⟩
theorem pr_ge {a b : Int} (ha : a.sign ≠ 0) (h : a.sign = b.sign) (hg : (b.natAbs : Int) ≤ (a.natAbs : Int)) : ((a - b).natAbs : Int) = (a.natAbs : Int) - (b.natAbs : Int) ∧ ((a.natAbs : Int) - (b.natAbs : Int) = 0 → (a - b).sign = 0) ∧ ((a.natAbs : Int) - (b.natAbs : Int) ≠ 0 → (a - b).sign = a.sign) := by
  have h1 := pr_sgn a
  have h2 := pr_sgn b
  have h3 := pr_sgn (a - b)
  exact ⟨by omega, fun _ => by omega, fun _ => by omega⟩
theorem pr_lt {a b : Int} (ha : a.sign ≠ 0) (h : a.sign = b.sign) (hg : (a.natAbs : Int) < (b.natAbs : Int)) : ((a - b).natAbs : Int) = (b.natAbs : Int) - (a.natAbs : Int) ∧ (a - b).sign = - a.sign := by
  have h1 := pr_sgn a
  have h2 := pr_sgn b
  have h3 := pr_sgn (a - b)
  exact ⟨by omega, by omega⟩
set_option maxHeartbeats 4000000 in
set_option maxRecDepth 100000 in
/-- Arithmetic.divideExactly -/
theorem p_divideExactly (l : Launch) (D : va_G) (cI cJ cE cF cR : ClassId) (NP : Nat) (ad : Nat → Nat) (G : Nat → va_E) (a b q ra rb rq m1 m2 mq : Nat) (v1 v2 : Int) (hA0 : pAr cI ad G) (ha : pWh cI ad G a ra v1) (hb9 : pWh cI ad G b rb v2) (hq : pHas cI ad G q rq) (hv2 : 0 < v2) (hm1 : v1 < bg_p m1) (hm2 : v2 < bg_p m2) (hm96 : m1 ≤ 96) (hm97 : m2 ≤ 96) (hmq : v1 / v2 < bg_p mq) (hmq1 : mq + 1 ≤ rq) (hra9 : ra ≤ 1000) (hrb9 : rb ≤ 1000) (hrq9 : rq ≤ 1000) (hab : a + 1 < b ∨ b + 1 < a) (haq : a + 1 < q ∨ q + 1 < a) (hbq : b + 1 < q ∨ q + 1 < b) (hla : 33 ≤ a) (hna : a + 1 < NP) (hlb : 33 ≤ b) (hnb : b + 1 < NP) (hlq : 33 ≤ q) (hnq : q + 1 < NP) : Cv l D (zty cI cJ cE cF cR) yX0_divideExactly wsX0_divideExactly (zRm 3 110) 0 0 [.ref (ad 6), .ref (ad a), .ref (ad b), .ref (ad q)] (pw NP ad G) (fun w1 => ∃ G1 : Nat → va_E, w1 = pw NP ad G1 ∧ pAr cI ad G1 ∧ pWh cI ad G1 q rq (v1 / v2) ∧ ∀ i9 : Nat, i9 < 7 ∨ 32 < i9 → i9 ≠ q → i9 ≠ q + 1 → G1 i9 = G i9) := by
  unfold Cv
  refine zs (Qc := zQv D _ _) (cc := cX0_divideExactly) (maxL := 4) (ret := none) (by decide) rfl (Nat.le_of_ble_eq_true rfl) ?_
  intro zp ze s zm below meth zc ls A args Q hQ hx hb hr hts hown hlk hml hnm hN hA hK hP hD hS hl
  have q_f_RX0_12_Arithmetic_division_LDivision := hts (.fieldLink RX0 12 "LimbSolver$Arithmetic" "division" "LLimbSolver$Division;") (by decide +kernel)
  have hin0 : ∀ w ∈ wsX00, w ∈ wsX0_divideExactly := by decide +kernel
  have q_f_RX0_32_Arithmetic_rest_LWhole := hts (.fieldLink RX0 32 "LimbSolver$Arithmetic" "rest" "LLimbSolver$Whole;") (by decide +kernel)
  have hl : lv_has ls 4 [(0, .ref (ad 6)), (1, .ref (ad a)), (2, .ref (ad b)), (3, .ref (ad q))] := hl
  refine lv_aload_n hx hb dX0_divideExactly_0 rfl (lv_at hl 0 rfl) ?_
  refine va_get (D := D) (ci := 0) (v := .ref (ad 7)) (C := RX0) (T := TX0) (N := 9) hx hb hts hin0 hown hK hP (6) (pw_at (by omega) (hA0.1)) rfl 0 (by decide) q_f_RX0_12_Arithmetic_division_LDivision (fun _ h9 => h9) rfl dX0_divideExactly_1 ?_
  refine lv_aload_n hx hb dX0_divideExactly_4 rfl (lv_at hl 1 rfl) ?_
  refine lv_aload_n hx hb dX0_divideExactly_5 rfl (lv_at hl 2 rfl) ?_
  refine lv_aload_n hx hb dX0_divideExactly_6 rfl (lv_at hl 3 rfl) ?_
  refine lv_aload_n hx hb dX0_divideExactly_7 rfl (lv_at hl 0 rfl) ?_
  refine va_get (D := D) (ci := 0) (v := .ref (ad 19)) (C := RX0) (T := TX0) (N := 9) hx hb hts hin0 hown hK hP (6) (pw_at (by omega) (hA0.1)) rfl 2 (by decide) q_f_RX0_32_Arithmetic_rest_LWhole (fun _ h9 => h9) rfl dX0_divideExactly_8 ?_
  refine zc_Vv (As := [.ref (ad a), .ref (ad b), .ref (ad q), .ref (ad 19)]) (rest := []) (wr := []) ⟨hx, hb, hml, hown, hts⟩ (p_divide l D cI cJ cE cF cR NP ad G a b q 19 ra rb rq 96 m1 m2 v1 v2 hA0.2.1 ha hb9 hq hA0.2.2.1 hv2 hm1 hm2 hm96 (by omega) mq hmq hmq1 (by omega) (by omega) (by omega) (by omega) hab haq (by omega) hbq (by omega) (by omega) (by omega) (by omega) (by omega) (by omega) (by omega) (by omega) (by omega) (by omega)) (cwV 4 hts gX0_divideExactly_X1_divide rfl rfl rfl (by decide +kernel) ⟨Nat.le_of_ble_eq_true rfl, Nat.le_of_ble_eq_true rfl⟩) hN hK hP hD hS hA (List.range NP) [] (pw_all _ _ _) rfl (pw_nd _) rfl (fun _ h9 => nomatch h9) (q0 := 7) (ci := 1) rfl rfl (pw_at (by omega) (hA0.2.1.1)) rfl hl.1 (Nat.le_of_ble_eq_true rfl) dX0_divideExactly_11 ⟨by decide, by decide⟩ (fun w1 H locs hp hP hD hS => ?_)
  obtain ⟨G1, rfl, hE1, hq1, hr1, ho⟩ := hp
  have hP : va_P D vwCl (pw NP ad G1) H := hP
  have hD : va_D A (pw NP ad G1) := hD
  exact zr_vret hQ hx hb hr hlk dX0_divideExactly_14 hK hP hD hS (by omega) (by omega) (⟨G1, rfl, ⟨(ho 6 (by omega) (by omega) (by omega) (by omega) (by omega)).trans hA0.1, hE1, hr1.has, hA0.2.2.2.1.keep (ho _ (by omega) (by omega) (by omega) (by omega) (by omega)) (ho _ (by omega) (by omega) (by omega) (by omega) (by omega)), hA0.2.2.2.2.1.keep (ho _ (by omega) (by omega) (by omega) (by omega) (by omega)) (ho _ (by omega) (by omega) (by omega) (by omega) (by omega)), hA0.2.2.2.2.2.1.keep (ho _ (by omega) (by omega) (by omega) (by omega) (by omega)) (ho _ (by omega) (by omega) (by omega) (by omega) (by omega)), hA0.2.2.2.2.2.2.1.keep (ho _ (by omega) (by omega) (by omega) (by omega) (by omega)) (ho _ (by omega) (by omega) (by omega) (by omega) (by omega)), hA0.2.2.2.2.2.2.2.1.keep (ho _ (by omega) (by omega) (by omega) (by omega) (by omega)) (ho _ (by omega) (by omega) (by omega) (by omega) (by omega)), hA0.2.2.2.2.2.2.2.2.keep (ho _ (by omega) (by omega) (by omega) (by omega) (by omega)) (ho _ (by omega) (by omega) (by omega) (by omega) (by omega))⟩, hq1, fun i9 h1 h2 h3 => ho i9 (by omega) h2 h3 (by omega) (by omega)⟩)

set_option maxHeartbeats 4000000 in
set_option maxRecDepth 100000 in
/-- Arithmetic.reduce -/
theorem p_reduce (l : Launch) (D : va_G) (cI cJ cE cF cR : ClassId) (NP : Nat) (ad : Nat → Nat) (G : Nat → va_E) (e9 b f re rb rf m1 m2 : Nat) (z v ds : Int) (x : Rat) (hA0 : pAr cI ad G) (hen : pEn cI ad G e9 re z) (hb9 : pWh cI ad G b rb v) (hfh : pFh cI ad G f rf) (hds : ds = 1 ∨ ds = -1) (hv : 0 < v) (hx9 : x = (z : Rat) / ((ds * v : Int) : Rat)) (hm1 : (z.natAbs : Int) < bg_p m1) (hm2 : v < bg_p m2) (hm96 : m1 ≤ 96) (hm97 : m2 ≤ 96) (hmf1 : m1 ≤ rf) (hmf2 : m2 ≤ rf) (hre9 : re ≤ 1000) (hrb9 : rb ≤ 1000) (hrf9 : rf ≤ 1000) (heb : e9 + 2 < b ∨ b + 1 < e9) (hef : e9 + 2 < f ∨ f + 4 < e9) (hbf : b + 1 < f ∨ f + 4 < b) (hle : 33 ≤ e9 ∧ e9 + 2 < NP) (hlb : 33 ≤ b ∧ b + 1 < NP) (hlf : 33 ≤ f ∧ f + 4 < NP) : Cv l D (zty cI cJ cE cF cR) yX0_reduce wsX0_reduce (zRm 4 150) 0 0 [.ref (ad 6), .ref (ad e9), .ref (ad b), .int (iZ (ds)), .ref (ad f)] (pw NP ad G) (fun w1 => ∃ G1 : Nat → va_E, w1 = pw NP ad G1 ∧ pAr cI ad G1 ∧ pFr cI ad G1 f rf x ∧ ∀ i9 : Nat, i9 < 7 ∨ 32 < i9 → i9 ≠ f → i9 ≠ f + 1 → i9 ≠ f + 1 + 1 → i9 ≠ f + 3 → i9 ≠ f + 3 + 1 → G1 i9 = G i9) := by
  unfold Cv
  refine zs (Qc := zQv D _ _) (cc := cX0_reduce) (maxL := 5) (ret := none) (by decide) rfl (Nat.le_of_ble_eq_true rfl) ?_
  intro zp ze s zm below meth zc ls A args Q hQ hx hb hr hts hown hlk hml hnm hN hA hK hP hD hS hl
  have q_f_RX0_23_Arithmetic_euclid_LEuclid := hts (.fieldLink RX0 23 "LimbSolver$Arithmetic" "euclid" "LLimbSolver$Euclid;") (by decide +kernel)
  have hin0 : ∀ w ∈ wsX00, w ∈ wsX0_reduce := by decide +kernel
  have hin3 : ∀ w ∈ wsX30, w ∈ wsX0_reduce := by decide +kernel
  have hin6 : ∀ w ∈ wsX60, w ∈ wsX0_reduce := by decide +kernel
  have hl : lv_has ls 5 [(0, .ref (ad 6)), (1, .ref (ad e9)), (2, .ref (ad b)), (3, .int (iZ (ds))), (4, .ref (ad f))] := hl
  obtain ⟨x1, x2, x3, x4, hE4⟩ := hA0.2.1.2.2.2.1
  obtain ⟨fs0, hf0⟩ := hfh.1
  refine lv_aload_n hx hb dX0_reduce_0 rfl (lv_at hl 0 rfl) ?_
  refine va_get (D := D) (ci := 0) (v := .ref (ad 10)) (C := RX0) (T := TX0) (N := 9) hx hb hts hin0 hown hK hP (6) (pw_at (by omega) (hA0.1)) rfl 1 (by decide) q_f_RX0_23_Arithmetic_euclid_LEuclid (fun _ h9 => h9) rfl dX0_reduce_1 ?_
  refine lv_aload_n hx hb dX0_reduce_4 rfl (lv_at hl 1 rfl) ?_
  refine va_getN (D := D) (ci := 3) (v := .ref (ad (e9 + 1))) (C := RX3) (T := TX3) (N := 2) hx hb hts hin3 hown hK hP (e9) (pw_at (by omega) (hen.1)) rfl 0 (by decide) (hN.F 10 rfl) (fun _ h9 => h9) rfl dX0_reduce_5 ?_
  refine lv_aload_n hx hb dX0_reduce_8 rfl (lv_at hl 2 rfl) ?_
  refine lv_aload hx hb dX0_reduce_9 (lv_at hl 4 rfl) ?_
  refine va_getN (D := D) (ci := 6) (v := .ref (ad (f + 1))) (C := RX6) (T := TX6) (N := 3) hx hb hts hin6 hown hK hP (f) (pw_at (by omega) (hf0)) rfl 0 (by decide) (hN.F 13 rfl) (fun _ h9 => h9) rfl dX0_reduce_11 ?_
  refine lv_aload hx hb dX0_reduce_14 (lv_at hl 4 rfl) ?_
  refine va_getN (D := D) (ci := 6) (v := .ref (ad (f + 3))) (C := RX6) (T := TX6) (N := 3) hx hb hts hin6 hown hK hP (f) (pw_at (by omega) (hf0)) rfl 1 (by decide) (hN.F 14 rfl) (fun _ h9 => h9) rfl dX0_reduce_16 ?_
  refine zc_Vv (As := [.ref (ad (e9 + 1)), .ref (ad b), .ref (ad (f + 1)), .ref (ad (f + 3))]) (rest := []) (wr := []) ⟨hx, hb, hml, hown, hts⟩ (p_cancel l D cI cJ cE cF cR NP ad G (e9 + 1) b (f + 1) (f + 3) re rb rf rf m1 m2 (z.natAbs : Int) v hA0.2.1 hen.2 hb9 hfh.2.1 hfh.2.2 hv hm1 hm2 hm96 hm97 hmf1 hmf2 (by omega) (by omega) (by omega) (by omega) (by omega) (by omega) (by omega) (by omega) (by omega) (by omega) (by omega) (by omega) (by omega) (by omega) (by omega) (by omega) (by omega) (by omega)) (cwV 4 hts gX0_reduce_X5_cancel rfl rfl rfl (by decide +kernel) ⟨Nat.le_of_ble_eq_true rfl, Nat.le_of_ble_eq_true rfl⟩) hN hK hP hD hS hA (List.range NP) [] (pw_all _ _ _) rfl (pw_nd _) rfl (fun _ h9 => nomatch h9) (q0 := 10) (ci := 5) rfl rfl (pw_at (by omega) (hE4)) rfl hl.1 (Nat.le_of_ble_eq_true rfl) dX0_reduce_19 ⟨by decide, by decide⟩ (fun w1 H locs hp hP hD hS => ?_)
  obtain ⟨G1, rfl, hE1, hp1, hq1, ho⟩ := hp
  have hP : va_P D vwCl (pw NP ad G1) H := hP
  have hD : va_D A (pw NP ad G1) := hD
  have k19_0 : G1 (6) = .inr (0, [.ref (ad 7), .ref (ad 10), .ref (ad 19), .ref (ad 21), .ref (ad 23), .ref (ad 25), .ref (ad 27), .ref (ad 29), .ref (ad 31)]) := (ho (6) (by omega) (by omega) (by omega) (by omega) (by omega)).trans (hA0.1)
  have k19_2 : G1 (e9) = .inr (3, [.ref (ad (e9 + 1)), .int (iZ (z.sign))]) := (ho (e9) (by omega) (by omega) (by omega) (by omega) (by omega)).trans (hen.1)
  have k19_3 : G1 (f) = .inr (6, [.ref (ad (f + 1)), .ref (ad (f + 3)), .int (iZ (fs0))]) := (ho (f) (by omega) (by omega) (by omega) (by omega) (by omega)).trans (hf0)
  refine lv_aload hx hb dX0_reduce_22 (lv_at hl 4 rfl) ?_
  refine lv_aload_n hx hb dX0_reduce_24 rfl (lv_at hl 1 rfl) ?_
  refine va_getN (D := D) (ci := 3) (v := .int (iZ (z.sign))) (C := RX3) (T := TX3) (N := 2) hx hb hts hin3 hown hK hP (e9) (pw_at (by omega) (k19_2)) rfl 1 (by decide) (hN.F 12 rfl) (fun _ h9 => h9) rfl dX0_reduce_25 ?_
  refine lv_iload_n hx hb dX0_reduce_28 rfl (lv_at hl 3 rfl) ?_
  refine zr_imul hx hb dX0_reduce_29 ?_
  refine va_putN (D := D) (ci := 6) (v := .int (iZ ((z.sign) * (ds)))) (ty := tyX6 2) (C := RX6) (T := TX6) (N := 3) hx hb hts hin6 tyX6 tyX6_ok nmX6 hown hK hP hD hS (f) (pw_at (by omega) (k19_3)) rfl 2 (by decide) (hN.F 15 rfl) (fun _ h9 => h9) rfl (tyX6_ok 2 (by decide)) rfl rfl (Nat.le_of_ble_eq_true rfl) dX0_reduce_30 (fun H locs hP hD hS => ?_)
  rw [pw_set] at hP hD
  obtain ⟨G_30, hg30⟩ : ∃ g : Nat → va_E, g = zu G1 (f) (.inr (6, [.ref (ad (f + 1)), .ref (ad (f + 3)), .int (iZ ((z.sign) * (ds)))])) := ⟨_, rfl⟩
  have hP : va_P D vwCl (pw NP ad G_30) H := by rw [hg30]; exact hP
  have hD : va_D A (pw NP ad G_30) := by rw [hg30]; exact hD
  have ho30 : ∀ k : Nat, k ≠ f → G_30 k = G1 k := fun k hk => by rw [hg30]; exact zu_n _ _ hk
  have he30 : G_30 (f) = .inr (6, [.ref (ad (f + 1)), .ref (ad (f + 3)), .int (iZ ((z.sign) * (ds)))]) := by rw [hg30]; exact zu_s _ _ _
  have k30_0 : G_30 (6) = .inr (0, [.ref (ad 7), .ref (ad 10), .ref (ad 19), .ref (ad 21), .ref (ad 23), .ref (ad 25), .ref (ad 27), .ref (ad 29), .ref (ad 31)]) := (ho30 (6) (by omega)).trans (k19_0)
  have k30_1 : G_30 (e9) = .inr (3, [.ref (ad (e9 + 1)), .int (iZ (z.sign))]) := (ho30 (e9) (by omega)).trans (k19_2)
  have hAA : pAr cI ad G_30 := ⟨k30_0, hE1.keep (fun k q1 q2 => ho30 k (by omega)), (hA0.2.2.1.keep (ho _ (by omega) (by omega) (by omega) (by omega) (by omega)) (ho _ (by omega) (by omega) (by omega) (by omega) (by omega))).keep (ho30 _ (by omega)) (ho30 _ (by omega)), (hA0.2.2.2.1.keep (ho _ (by omega) (by omega) (by omega) (by omega) (by omega)) (ho _ (by omega) (by omega) (by omega) (by omega) (by omega))).keep (ho30 _ (by omega)) (ho30 _ (by omega)), (hA0.2.2.2.2.1.keep (ho _ (by omega) (by omega) (by omega) (by omega) (by omega)) (ho _ (by omega) (by omega) (by omega) (by omega) (by omega))).keep (ho30 _ (by omega)) (ho30 _ (by omega)), (hA0.2.2.2.2.2.1.keep (ho _ (by omega) (by omega) (by omega) (by omega) (by omega)) (ho _ (by omega) (by omega) (by omega) (by omega) (by omega))).keep (ho30 _ (by omega)) (ho30 _ (by omega)), (hA0.2.2.2.2.2.2.1.keep (ho _ (by omega) (by omega) (by omega) (by omega) (by omega)) (ho _ (by omega) (by omega) (by omega) (by omega) (by omega))).keep (ho30 _ (by omega)) (ho30 _ (by omega)), (hA0.2.2.2.2.2.2.2.1.keep (ho _ (by omega) (by omega) (by omega) (by omega) (by omega)) (ho _ (by omega) (by omega) (by omega) (by omega) (by omega))).keep (ho30 _ (by omega)) (ho30 _ (by omega)), (hA0.2.2.2.2.2.2.2.2.keep (ho _ (by omega) (by omega) (by omega) (by omega) (by omega)) (ho _ (by omega) (by omega) (by omega) (by omega) (by omega))).keep (ho30 _ (by omega)) (ho30 _ (by omega))⟩
  exact zr_vret hQ hx hb hr hlk dX0_reduce_33 hK hP hD hS (by omega) (by omega) (⟨G_30, rfl, hAA, ⟨by rw [(pr_red hds hv hx9).2.2]; exact he30, by rw [(pr_red hds hv hx9).1]; exact hp1.keep (ho30 _ (by omega)) (ho30 _ (by omega)), by rw [(pr_red hds hv hx9).2.1]; exact hq1.keep (ho30 _ (by omega)) (ho30 _ (by omega))⟩, fun i9 h1 h2 h3 h4 h5 h6 => (ho30 i9 h2).trans (ho i9 (by omega) h3 h4 h5 h6)⟩)

set_option maxHeartbeats 4000000 in
set_option maxRecDepth 100000 in
/-- Arithmetic.multiplyFractions -/
theorem p_mulFr (l : Launch) (D : va_G) (cI cJ cE cF cR : ClassId) (NP : Nat) (ad : Nat → Nat) (G : Nat → va_E) (a b f ra rb rf mn1 mn2 md1 md2 : Nat) (xa xb : Rat) (hA0 : pAr cI ad G) (hfa : pFr cI ad G a ra xa) (hfb : pFr cI ad G b rb xb) (hff : pFh cI ad G f rf) (hmn1 : (xa.num.natAbs : Int) < bg_p mn1) (hmn2 : (xb.num.natAbs : Int) < bg_p mn2) (hmd1 : (xa.den : Int) < bg_p md1) (hmd2 : (xb.den : Int) < bg_p md2) (hm1 : mn1 ≤ 96 ∧ mn2 ≤ 96 ∧ md1 ≤ 96 ∧ md2 ≤ 96) (hm2 : mn1 + mn2 ≤ rf) (hm3 : md1 + md2 ≤ rf) (hra9 : ra ≤ 1000) (hrb9 : rb ≤ 1000) (hrf9 : rf ≤ 1000) (hab : a + 4 < b ∨ b + 4 < a) (haf : a + 4 < f ∨ f + 4 < a) (hbf : b + 4 < f ∨ f + 4 < b) (hla : 33 ≤ a ∧ a + 4 < NP) (hlb : 33 ≤ b ∧ b + 4 < NP) (hlf : 33 ≤ f ∧ f + 4 < NP) : Cv l D (zty cI cJ cE cF cR) yX0_multiplyFractions wsX0_multiplyFractions (zRm 4 150) 0 0 [.ref (ad 6), .ref (ad a), .ref (ad b), .ref (ad f)] (pw NP ad G) (fun w1 => ∃ G1 : Nat → va_E, w1 = pw NP ad G1 ∧ pAr cI ad G1 ∧ pFr cI ad G1 f rf (xa * xb) ∧ ∀ i9 : Nat, i9 < 7 ∨ 32 < i9 → i9 ≠ f → i9 ≠ f + 1 → i9 ≠ f + 1 + 1 → i9 ≠ f + 3 → i9 ≠ f + 3 + 1 → G1 i9 = G i9) := by
  unfold Cv
  refine zs (Qc := zQv D _ _) (cc := cX0_multiplyFractions) (maxL := 4) (ret := none) (by decide) rfl (Nat.le_of_ble_eq_true rfl) ?_
  intro zp ze s zm below meth zc ls A args Q hQ hx hb hr hts hown hlk hml hnm hN hA hK hP hD hS hl
  have q_f_RX0_23_Arithmetic_euclid_LEuclid := hts (.fieldLink RX0 23 "LimbSolver$Arithmetic" "euclid" "LLimbSolver$Euclid;") (by decide +kernel)
  have hin0 : ∀ w ∈ wsX00, w ∈ wsX0_multiplyFractions := by decide +kernel
  have hin6 : ∀ w ∈ wsX60, w ∈ wsX0_multiplyFractions := by decide +kernel
  have q_f_RX0_42_Arithmetic_firstNum_LWhole := hts (.fieldLink RX0 42 "LimbSolver$Arithmetic" "firstNum" "LLimbSolver$Whole;") (by decide +kernel)
  have q_f_RX0_51_Arithmetic_secondDen_LWhole := hts (.fieldLink RX0 51 "LimbSolver$Arithmetic" "secondDen" "LLimbSolver$Whole;") (by decide +kernel)
  have q_f_RX0_48_Arithmetic_secondNum_LWhole := hts (.fieldLink RX0 48 "LimbSolver$Arithmetic" "secondNum" "LLimbSolver$Whole;") (by decide +kernel)
  have q_f_RX0_45_Arithmetic_firstDen_LWhole := hts (.fieldLink RX0 45 "LimbSolver$Arithmetic" "firstDen" "LLimbSolver$Whole;") (by decide +kernel)
  have hl : lv_has ls 4 [(0, .ref (ad 6)), (1, .ref (ad a)), (2, .ref (ad b)), (3, .ref (ad f))] := hl
  obtain ⟨x1, x2, x3, x4, hE4⟩ := hA0.2.1.2.2.2.1
  obtain ⟨fs0, hf0⟩ := hff.1
  refine lv_aload_n hx hb dX0_multiplyFractions_0 rfl (lv_at hl 0 rfl) ?_
  refine va_get (D := D) (ci := 0) (v := .ref (ad 10)) (C := RX0) (T := TX0) (N := 9) hx hb hts hin0 hown hK hP (6) (pw_at (by omega) (hA0.1)) rfl 1 (by decide) q_f_RX0_23_Arithmetic_euclid_LEuclid (fun _ h9 => h9) rfl dX0_multiplyFractions_1 ?_
  refine lv_aload_n hx hb dX0_multiplyFractions_4 rfl (lv_at hl 1 rfl) ?_
  refine va_getN (D := D) (ci := 6) (v := .ref (ad (a + 1))) (C := RX6) (T := TX6) (N := 3) hx hb hts hin6 hown hK hP (a) (pw_at (by omega) (hfa.1)) rfl 0 (by decide) (hN.F 13 rfl) (fun _ h9 => h9) rfl dX0_multiplyFractions_5 ?_
  refine lv_aload_n hx hb dX0_multiplyFractions_8 rfl (lv_at hl 2 rfl) ?_
  refine va_getN (D := D) (ci := 6) (v := .ref (ad (b + 3))) (C := RX6) (T := TX6) (N := 3) hx hb hts hin6 hown hK hP (b) (pw_at (by omega) (hfb.1)) rfl 1 (by decide) (hN.F 14 rfl) (fun _ h9 => h9) rfl dX0_multiplyFractions_9 ?_
  refine lv_aload_n hx hb dX0_multiplyFractions_12 rfl (lv_at hl 0 rfl) ?_
  refine va_get (D := D) (ci := 0) (v := .ref (ad 25)) (C := RX0) (T := TX0) (N := 9) hx hb hts hin0 hown hK hP (6) (pw_at (by omega) (hA0.1)) rfl 5 (by decide) q_f_RX0_42_Arithmetic_firstNum_LWhole (fun _ h9 => h9) rfl dX0_multiplyFractions_13 ?_
  refine lv_aload_n hx hb dX0_multiplyFractions_16 rfl (lv_at hl 0 rfl) ?_
  refine va_get (D := D) (ci := 0) (v := .ref (ad 31)) (C := RX0) (T := TX0) (N := 9) hx hb hts hin0 hown hK hP (6) (pw_at (by omega) (hA0.1)) rfl 8 (by decide) q_f_RX0_51_Arithmetic_secondDen_LWhole (fun _ h9 => h9) rfl dX0_multiplyFractions_17 ?_
  refine zc_Vv (As := [.ref (ad (a + 1)), .ref (ad (b + 3)), .ref (ad 25), .ref (ad 31)]) (rest := []) (wr := []) ⟨hx, hb, hml, hown, hts⟩ (p_cancel l D cI cJ cE cF cR NP ad G (a + 1) (b + 3) 25 31 ra rb 96 96 mn1 md2 (xa.num.natAbs : Int) (xb.den : Int) hA0.2.1 hfa.2.1 hfb.2.2 hA0.2.2.2.2.2.1 hA0.2.2.2.2.2.2.2.2 (by have := xb.den_pos; omega) hmn1 hmd2 (by omega) (by omega) (by omega) (by omega) (by omega) (by omega) (by omega) (by omega) (by omega) (by omega) (by omega) (by omega) (by omega) (by omega) (by omega) (by omega) (by omega) (by omega) (by omega) (by omega) (by omega) (by omega)) (cwV 4 hts gX0_multiplyFractions_X5_cancel rfl rfl rfl (by decide +kernel) ⟨Nat.le_of_ble_eq_true rfl, Nat.le_of_ble_eq_true rfl⟩) hN hK hP hD hS hA (List.range NP) [] (pw_all _ _ _) rfl (pw_nd _) rfl (fun _ h9 => nomatch h9) (q0 := 10) (ci := 5) rfl rfl (pw_at (by omega) (hE4)) rfl hl.1 (Nat.le_of_ble_eq_true rfl) dX0_multiplyFractions_20 ⟨by decide, by decide⟩ (fun w1 H locs hp hP hD hS => ?_)
  obtain ⟨G1, rfl, hE1, hp1, hq1, ho1⟩ := hp
  obtain ⟨y1, y2, y3, y4, hE14⟩ := hE1.2.2.2.1
  have hP : va_P D vwCl (pw NP ad G1) H := hP
  have hD : va_D A (pw NP ad G1) := hD
  have k20_0 : G1 (6) = .inr (0, [.ref (ad 7), .ref (ad 10), .ref (ad 19), .ref (ad 21), .ref (ad 23), .ref (ad 25), .ref (ad 27), .ref (ad 29), .ref (ad 31)]) := (ho1 (6) (by omega) (by omega) (by omega) (by omega) (by omega)).trans (hA0.1)
  have k20_2 : G1 (a) = .inr (6, [.ref (ad (a + 1)), .ref (ad (a + 3)), .int (iZ (xa.num.sign))]) := (ho1 (a) (by omega) (by omega) (by omega) (by omega) (by omega)).trans (hfa.1)
  have k20_3 : G1 (b) = .inr (6, [.ref (ad (b + 1)), .ref (ad (b + 3)), .int (iZ (xb.num.sign))]) := (ho1 (b) (by omega) (by omega) (by omega) (by omega) (by omega)).trans (hfb.1)
  have k20_4 : G1 (f) = .inr (6, [.ref (ad (f + 1)), .ref (ad (f + 3)), .int (iZ (fs0))]) := (ho1 (f) (by omega) (by omega) (by omega) (by omega) (by omega)).trans (hf0)
  refine lv_aload_n hx hb dX0_multiplyFractions_23 rfl (lv_at hl 0 rfl) ?_
  refine va_get (D := D) (ci := 0) (v := .ref (ad 10)) (C := RX0) (T := TX0) (N := 9) hx hb hts hin0 hown hK hP (6) (pw_at (by omega) (k20_0)) rfl 1 (by decide) q_f_RX0_23_Arithmetic_euclid_LEuclid (fun _ h9 => h9) rfl dX0_multiplyFractions_24 ?_
  refine lv_aload_n hx hb dX0_multiplyFractions_27 rfl (lv_at hl 2 rfl) ?_
  refine va_getN (D := D) (ci := 6) (v := .ref (ad (b + 1))) (C := RX6) (T := TX6) (N := 3) hx hb hts hin6 hown hK hP (b) (pw_at (by omega) (k20_3)) rfl 0 (by decide) (hN.F 13 rfl) (fun _ h9 => h9) rfl dX0_multiplyFractions_28 ?_
  refine lv_aload_n hx hb dX0_multiplyFractions_31 rfl (lv_at hl 1 rfl) ?_
  refine va_getN (D := D) (ci := 6) (v := .ref (ad (a + 3))) (C := RX6) (T := TX6) (N := 3) hx hb hts hin6 hown hK hP (a) (pw_at (by omega) (k20_2)) rfl 1 (by decide) (hN.F 14 rfl) (fun _ h9 => h9) rfl dX0_multiplyFractions_32 ?_
  refine lv_aload_n hx hb dX0_multiplyFractions_35 rfl (lv_at hl 0 rfl) ?_
  refine va_get (D := D) (ci := 0) (v := .ref (ad 29)) (C := RX0) (T := TX0) (N := 9) hx hb hts hin0 hown hK hP (6) (pw_at (by omega) (k20_0)) rfl 7 (by decide) q_f_RX0_48_Arithmetic_secondNum_LWhole (fun _ h9 => h9) rfl dX0_multiplyFractions_36 ?_
  refine lv_aload_n hx hb dX0_multiplyFractions_39 rfl (lv_at hl 0 rfl) ?_
  refine va_get (D := D) (ci := 0) (v := .ref (ad 27)) (C := RX0) (T := TX0) (N := 9) hx hb hts hin0 hown hK hP (6) (pw_at (by omega) (k20_0)) rfl 6 (by decide) q_f_RX0_45_Arithmetic_firstDen_LWhole (fun _ h9 => h9) rfl dX0_multiplyFractions_40 ?_
  refine zc_Vv (As := [.ref (ad (b + 1)), .ref (ad (a + 3)), .ref (ad 29), .ref (ad 27)]) (rest := []) (wr := []) ⟨hx, hb, hml, hown, hts⟩ (p_cancel l D cI cJ cE cF cR NP ad G1 (b + 1) (a + 3) 29 27 rb ra 96 96 mn2 md1 (xb.num.natAbs : Int) (xa.den : Int) hE1 (hfb.2.1.keep (ho1 _ (by omega) (by omega) (by omega) (by omega) (by omega)) (ho1 _ (by omega) (by omega) (by omega) (by omega) (by omega))) (hfa.2.2.keep (ho1 _ (by omega) (by omega) (by omega) (by omega) (by omega)) (ho1 _ (by omega) (by omega) (by omega) (by omega) (by omega))) (hA0.2.2.2.2.2.2.2.1.keep (ho1 _ (by omega) (by omega) (by omega) (by omega) (by omega)) (ho1 _ (by omega) (by omega) (by omega) (by omega) (by omega))) (hA0.2.2.2.2.2.2.1.keep (ho1 _ (by omega) (by omega) (by omega) (by omega) (by omega)) (ho1 _ (by omega) (by omega) (by omega) (by omega) (by omega))) (by have := xa.den_pos; omega) hmn2 hmd1 (by omega) (by omega) (by omega) (by omega) (by omega) (by omega) (by omega) (by omega) (by omega) (by omega) (by omega) (by omega) (by omega) (by omega) (by omega) (by omega) (by omega) (by omega) (by omega) (by omega) (by omega) (by omega)) (cwV 4 hts gX0_multiplyFractions_X5_cancel rfl rfl rfl (by decide +kernel) ⟨Nat.le_of_ble_eq_true rfl, Nat.le_of_ble_eq_true rfl⟩) hN hK hP hD hS hA (List.range NP) [] (pw_all _ _ _) rfl (pw_nd _) rfl (fun _ h9 => nomatch h9) (q0 := 10) (ci := 5) rfl rfl (pw_at (by omega) (hE14)) rfl hl.1 (Nat.le_of_ble_eq_true rfl) dX0_multiplyFractions_43 ⟨by decide, by decide⟩ (fun w1 H locs hp hP hD hS => ?_)
  obtain ⟨G2, rfl, hE2, hp2, hq2, ho2⟩ := hp
  have hP : va_P D vwCl (pw NP ad G2) H := hP
  have hD : va_D A (pw NP ad G2) := hD
  have k43_0 : G2 (6) = .inr (0, [.ref (ad 7), .ref (ad 10), .ref (ad 19), .ref (ad 21), .ref (ad 23), .ref (ad 25), .ref (ad 27), .ref (ad 29), .ref (ad 31)]) := (ho2 (6) (by omega) (by omega) (by omega) (by omega) (by omega)).trans (k20_0)
  have k43_1 : G2 (a) = .inr (6, [.ref (ad (a + 1)), .ref (ad (a + 3)), .int (iZ (xa.num.sign))]) := (ho2 (a) (by omega) (by omega) (by omega) (by omega) (by omega)).trans (k20_2)
  have k43_2 : G2 (b) = .inr (6, [.ref (ad (b + 1)), .ref (ad (b + 3)), .int (iZ (xb.num.sign))]) := (ho2 (b) (by omega) (by omega) (by omega) (by omega) (by omega)).trans (k20_3)
  have k43_3 : G2 (f) = .inr (6, [.ref (ad (f + 1)), .ref (ad (f + 3)), .int (iZ (fs0))]) := (ho2 (f) (by omega) (by omega) (by omega) (by omega) (by omega)).trans (k20_4)
  obtain ⟨fc1, fg1, hfc1, hfd1⟩ := hff.2.1.keep ((ho2 _ (by omega) (by omega) (by omega) (by omega) (by omega)).trans (ho1 _ (by omega) (by omega) (by omega) (by omega) (by omega))) ((ho2 _ (by omega) (by omega) (by omega) (by omega) (by omega)).trans (ho1 _ (by omega) (by omega) (by omega) (by omega) (by omega)))
  refine lv_aload_n hx hb dX0_multiplyFractions_46 rfl (lv_at hl 3 rfl) ?_
  refine va_getN (D := D) (ci := 6) (v := .ref (ad (f + 1))) (C := RX6) (T := TX6) (N := 3) hx hb hts hin6 hown hK hP (f) (pw_at (by omega) (k43_3)) rfl 0 (by decide) (hN.F 13 rfl) (fun _ h9 => h9) rfl dX0_multiplyFractions_47 ?_
  refine lv_aload_n hx hb dX0_multiplyFractions_50 rfl (lv_at hl 0 rfl) ?_
  refine va_get (D := D) (ci := 0) (v := .ref (ad 25)) (C := RX0) (T := TX0) (N := 9) hx hb hts hin0 hown hK hP (6) (pw_at (by omega) (k43_0)) rfl 5 (by decide) q_f_RX0_42_Arithmetic_firstNum_LWhole (fun _ h9 => h9) rfl dX0_multiplyFractions_51 ?_
  refine lv_aload_n hx hb dX0_multiplyFractions_54 rfl (lv_at hl 0 rfl) ?_
  refine va_get (D := D) (ci := 0) (v := .ref (ad 29)) (C := RX0) (T := TX0) (N := 9) hx hb hts hin0 hown hK hP (6) (pw_at (by omega) (k43_0)) rfl 7 (by decide) q_f_RX0_48_Arithmetic_secondNum_LWhole (fun _ h9 => h9) rfl dX0_multiplyFractions_55 ?_
  refine zc_Vv (As := [.ref (ad 25), .ref (ad 29)]) (rest := []) (wr := []) ⟨hx, hb, hml, hown, hts⟩ (p_multiply l D cI cJ cE cF cR NP ad G2 (f + 1) 25 29 rf 96 96 mn1 mn2 ((xa.num.natAbs : Int) / ((Int.gcd (xa.num.natAbs : Int) (xb.den : Int) : Nat) : Int)) ((xb.num.natAbs : Int) / ((Int.gcd (xb.num.natAbs : Int) (xa.den : Int) : Nat) : Int)) (hff.2.1.keep ((ho2 _ (by omega) (by omega) (by omega) (by omega) (by omega)).trans (ho1 _ (by omega) (by omega) (by omega) (by omega) (by omega))) ((ho2 _ (by omega) (by omega) (by omega) (by omega) (by omega)).trans (ho1 _ (by omega) (by omega) (by omega) (by omega) (by omega)))) (hp1.keep (ho2 _ (by omega) (by omega) (by omega) (by omega) (by omega)) (ho2 _ (by omega) (by omega) (by omega) (by omega) (by omega))) (hp2) (Int.lt_of_le_of_lt (pr_dl _ _) hmn1) (Int.lt_of_le_of_lt (pr_dl _ _) hmn2) (by omega) (by omega) (by omega) (by omega) (by omega) (by omega) (by omega) ⟨by omega, by omega, by omega⟩) (cwV 2 hts gX0_multiplyFractions_X9_multiply rfl rfl rfl (by decide +kernel) ⟨Nat.le_of_ble_eq_true rfl, Nat.le_of_ble_eq_true rfl⟩) hN hK hP hD hS hA (List.range NP) [] (pw_all _ _ _) rfl (pw_nd _) rfl (fun _ h9 => nomatch h9) (q0 := f + 1) (ci := 9) rfl rfl (pw_at (by omega) (hfc1)) rfl hl.1 (Nat.le_of_ble_eq_true rfl) dX0_multiplyFractions_58 ⟨by decide, by decide⟩ (fun w1 H locs hp hP hD hS => ?_)
  obtain ⟨G3, rfl, hm_G3, hoG3⟩ := hp
  have hP : va_P D vwCl (pw NP ad G3) H := hP
  have hD : va_D A (pw NP ad G3) := hD
  have k58_0 : G3 (6) = .inr (0, [.ref (ad 7), .ref (ad 10), .ref (ad 19), .ref (ad 21), .ref (ad 23), .ref (ad 25), .ref (ad 27), .ref (ad 29), .ref (ad 31)]) := (hoG3 (6) (by omega) (by omega)).trans (k43_0)
  have k58_1 : G3 (a) = .inr (6, [.ref (ad (a + 1)), .ref (ad (a + 3)), .int (iZ (xa.num.sign))]) := (hoG3 (a) (by omega) (by omega)).trans (k43_1)
  have k58_2 : G3 (b) = .inr (6, [.ref (ad (b + 1)), .ref (ad (b + 3)), .int (iZ (xb.num.sign))]) := (hoG3 (b) (by omega) (by omega)).trans (k43_2)
  have k58_3 : G3 (f) = .inr (6, [.ref (ad (f + 1)), .ref (ad (f + 3)), .int (iZ (fs0))]) := (hoG3 (f) (by omega) (by omega)).trans (k43_3)
  obtain ⟨fc3, fg3, hfc3, hfd3⟩ := (hff.2.2.keep ((ho2 _ (by omega) (by omega) (by omega) (by omega) (by omega)).trans (ho1 _ (by omega) (by omega) (by omega) (by omega) (by omega))) ((ho2 _ (by omega) (by omega) (by omega) (by omega) (by omega)).trans (ho1 _ (by omega) (by omega) (by omega) (by omega) (by omega)))).keep (hoG3 _ (by omega) (by omega)) (hoG3 _ (by omega) (by omega))
  refine lv_aload_n hx hb dX0_multiplyFractions_61 rfl (lv_at hl 3 rfl) ?_
  refine va_getN (D := D) (ci := 6) (v := .ref (ad (f + 3))) (C := RX6) (T := TX6) (N := 3) hx hb hts hin6 hown hK hP (f) (pw_at (by omega) (k58_3)) rfl 1 (by decide) (hN.F 14 rfl) (fun _ h9 => h9) rfl dX0_multiplyFractions_62 ?_
  refine lv_aload_n hx hb dX0_multiplyFractions_65 rfl (lv_at hl 0 rfl) ?_
  refine va_get (D := D) (ci := 0) (v := .ref (ad 27)) (C := RX0) (T := TX0) (N := 9) hx hb hts hin0 hown hK hP (6) (pw_at (by omega) (k58_0)) rfl 6 (by decide) q_f_RX0_45_Arithmetic_firstDen_LWhole (fun _ h9 => h9) rfl dX0_multiplyFractions_66 ?_
  refine lv_aload_n hx hb dX0_multiplyFractions_69 rfl (lv_at hl 0 rfl) ?_
  refine va_get (D := D) (ci := 0) (v := .ref (ad 31)) (C := RX0) (T := TX0) (N := 9) hx hb hts hin0 hown hK hP (6) (pw_at (by omega) (k58_0)) rfl 8 (by decide) q_f_RX0_51_Arithmetic_secondDen_LWhole (fun _ h9 => h9) rfl dX0_multiplyFractions_70 ?_
  refine zc_Vv (As := [.ref (ad 27), .ref (ad 31)]) (rest := []) (wr := []) ⟨hx, hb, hml, hown, hts⟩ (p_multiply l D cI cJ cE cF cR NP ad G3 (f + 3) 27 31 rf 96 96 md1 md2 ((xa.den : Int) / ((Int.gcd (xb.num.natAbs : Int) (xa.den : Int) : Nat) : Int)) ((xb.den : Int) / ((Int.gcd (xa.num.natAbs : Int) (xb.den : Int) : Nat) : Int)) ((hff.2.2.keep ((ho2 _ (by omega) (by omega) (by omega) (by omega) (by omega)).trans (ho1 _ (by omega) (by omega) (by omega) (by omega) (by omega))) ((ho2 _ (by omega) (by omega) (by omega) (by omega) (by omega)).trans (ho1 _ (by omega) (by omega) (by omega) (by omega) (by omega)))).keep (hoG3 _ (by omega) (by omega)) (hoG3 _ (by omega) (by omega))) (hq2.keep (hoG3 _ (by omega) (by omega)) (hoG3 _ (by omega) (by omega))) ((hq1.keep (ho2 _ (by omega) (by omega) (by omega) (by omega) (by omega)) (ho2 _ (by omega) (by omega) (by omega) (by omega) (by omega))).keep (hoG3 _ (by omega) (by omega)) (hoG3 _ (by omega) (by omega))) (Int.lt_of_le_of_lt (pr_dl2 _ _) hmd1) (Int.lt_of_le_of_lt (pr_dl2 _ _) hmd2) (by omega) (by omega) (by omega) (by omega) (by omega) (by omega) (by omega) ⟨by omega, by omega, by omega⟩) (cwV 2 hts gX0_multiplyFractions_X9_multiply rfl rfl rfl (by decide +kernel) ⟨Nat.le_of_ble_eq_true rfl, Nat.le_of_ble_eq_true rfl⟩) hN hK hP hD hS hA (List.range NP) [] (pw_all _ _ _) rfl (pw_nd _) rfl (fun _ h9 => nomatch h9) (q0 := f + 3) (ci := 9) rfl rfl (pw_at (by omega) (hfc3)) rfl hl.1 (Nat.le_of_ble_eq_true rfl) dX0_multiplyFractions_73 ⟨by decide, by decide⟩ (fun w1 H locs hp hP hD hS => ?_)
  obtain ⟨G4, rfl, hm_G4, hoG4⟩ := hp
  have hP : va_P D vwCl (pw NP ad G4) H := hP
  have hD : va_D A (pw NP ad G4) := hD
  have k73_0 : G4 (6) = .inr (0, [.ref (ad 7), .ref (ad 10), .ref (ad 19), .ref (ad 21), .ref (ad 23), .ref (ad 25), .ref (ad 27), .ref (ad 29), .ref (ad 31)]) := (hoG4 (6) (by omega) (by omega)).trans (k58_0)
  have k73_1 : G4 (a) = .inr (6, [.ref (ad (a + 1)), .ref (ad (a + 3)), .int (iZ (xa.num.sign))]) := (hoG4 (a) (by omega) (by omega)).trans (k58_1)
  have k73_2 : G4 (b) = .inr (6, [.ref (ad (b + 1)), .ref (ad (b + 3)), .int (iZ (xb.num.sign))]) := (hoG4 (b) (by omega) (by omega)).trans (k58_2)
  have k73_3 : G4 (f) = .inr (6, [.ref (ad (f + 1)), .ref (ad (f + 3)), .int (iZ (fs0))]) := (hoG4 (f) (by omega) (by omega)).trans (k58_3)
  refine lv_aload_n hx hb dX0_multiplyFractions_76 rfl (lv_at hl 3 rfl) ?_
  refine lv_aload_n hx hb dX0_multiplyFractions_77 rfl (lv_at hl 1 rfl) ?_
  refine va_getN (D := D) (ci := 6) (v := .int (iZ (xa.num.sign))) (C := RX6) (T := TX6) (N := 3) hx hb hts hin6 hown hK hP (a) (pw_at (by omega) (k73_1)) rfl 2 (by decide) (hN.F 15 rfl) (fun _ h9 => h9) rfl dX0_multiplyFractions_78 ?_
  refine lv_aload_n hx hb dX0_multiplyFractions_81 rfl (lv_at hl 2 rfl) ?_
  refine va_getN (D := D) (ci := 6) (v := .int (iZ (xb.num.sign))) (C := RX6) (T := TX6) (N := 3) hx hb hts hin6 hown hK hP (b) (pw_at (by omega) (k73_2)) rfl 2 (by decide) (hN.F 15 rfl) (fun _ h9 => h9) rfl dX0_multiplyFractions_82 ?_
  refine zr_imul hx hb dX0_multiplyFractions_85 ?_
  refine va_putN (D := D) (ci := 6) (v := .int (iZ ((xa.num.sign) * (xb.num.sign)))) (ty := tyX6 2) (C := RX6) (T := TX6) (N := 3) hx hb hts hin6 tyX6 tyX6_ok nmX6 hown hK hP hD hS (f) (pw_at (by omega) (k73_3)) rfl 2 (by decide) (hN.F 15 rfl) (fun _ h9 => h9) rfl (tyX6_ok 2 (by decide)) rfl rfl (Nat.le_of_ble_eq_true rfl) dX0_multiplyFractions_86 (fun H locs hP hD hS => ?_)
  rw [pw_set] at hP hD
  obtain ⟨G_86, hg86⟩ : ∃ g : Nat → va_E, g = zu G4 (f) (.inr (6, [.ref (ad (f + 1)), .ref (ad (f + 3)), .int (iZ ((xa.num.sign) * (xb.num.sign)))])) := ⟨_, rfl⟩
  have hP : va_P D vwCl (pw NP ad G_86) H := by rw [hg86]; exact hP
  have hD : va_D A (pw NP ad G_86) := by rw [hg86]; exact hD
  have ho86 : ∀ k : Nat, k ≠ f → G_86 k = G4 k := fun k hk => by rw [hg86]; exact zu_n _ _ hk
  have he86 : G_86 (f) = .inr (6, [.ref (ad (f + 1)), .ref (ad (f + 3)), .int (iZ ((xa.num.sign) * (xb.num.sign)))]) := by rw [hg86]; exact zu_s _ _ _
  have k86_0 : G_86 (6) = .inr (0, [.ref (ad 7), .ref (ad 10), .ref (ad 19), .ref (ad 21), .ref (ad 23), .ref (ad 25), .ref (ad 27), .ref (ad 29), .ref (ad 31)]) := (ho86 (6) (by omega)).trans (k73_0)
  have k86_1 : G_86 (a) = .inr (6, [.ref (ad (a + 1)), .ref (ad (a + 3)), .int (iZ (xa.num.sign))]) := (ho86 (a) (by omega)).trans (k73_1)
  have k86_2 : G_86 (b) = .inr (6, [.ref (ad (b + 1)), .ref (ad (b + 3)), .int (iZ (xb.num.sign))]) := (ho86 (b) (by omega)).trans (k73_2)
  exact zr_vret hQ hx hb hr hlk dX0_multiplyFractions_89 hK hP hD hS (by omega) (by omega) (⟨G_86, rfl, ⟨k86_0, ((hE2.keep (fun k q1 q2 => hoG3 k (by omega) (by omega))).keep (fun k q1 q2 => hoG4 k (by omega) (by omega))).keep (fun k q1 q2 => ho86 k (by omega)), (((((hA0.2.2.1.keep (ho1 _ (by omega) (by omega) (by omega) (by omega) (by omega)) (ho1 _ (by omega) (by omega) (by omega) (by omega) (by omega))).keep (ho2 _ (by omega) (by omega) (by omega) (by omega) (by omega)) (ho2 _ (by omega) (by omega) (by omega) (by omega) (by omega))).keep (hoG3 _ (by omega) (by omega)) (hoG3 _ (by omega) (by omega))).keep (hoG4 _ (by omega) (by omega)) (hoG4 _ (by omega) (by omega))).keep (ho86 _ (by omega)) (ho86 _ (by omega))), (((((hA0.2.2.2.1.keep (ho1 _ (by omega) (by omega) (by omega) (by omega) (by omega)) (ho1 _ (by omega) (by omega) (by omega) (by omega) (by omega))).keep (ho2 _ (by omega) (by omega) (by omega) (by omega) (by omega)) (ho2 _ (by omega) (by omega) (by omega) (by omega) (by omega))).keep (hoG3 _ (by omega) (by omega)) (hoG3 _ (by omega) (by omega))).keep (hoG4 _ (by omega) (by omega)) (hoG4 _ (by omega) (by omega))).keep (ho86 _ (by omega)) (ho86 _ (by omega))), (((((hA0.2.2.2.2.1.keep (ho1 _ (by omega) (by omega) (by omega) (by omega) (by omega)) (ho1 _ (by omega) (by omega) (by omega) (by omega) (by omega))).keep (ho2 _ (by omega) (by omega) (by omega) (by omega) (by omega)) (ho2 _ (by omega) (by omega) (by omega) (by omega) (by omega))).keep (hoG3 _ (by omega) (by omega)) (hoG3 _ (by omega) (by omega))).keep (hoG4 _ (by omega) (by omega)) (hoG4 _ (by omega) (by omega))).keep (ho86 _ (by omega)) (ho86 _ (by omega))), ((((hp1.has.keep (ho2 _ (by omega) (by omega) (by omega) (by omega) (by omega)) (ho2 _ (by omega) (by omega) (by omega) (by omega) (by omega))).keep (hoG3 _ (by omega) (by omega)) (hoG3 _ (by omega) (by omega))).keep (hoG4 _ (by omega) (by omega)) (hoG4 _ (by omega) (by omega))).keep (ho86 _ (by omega)) (ho86 _ (by omega))), ((((hq2.has).keep (hoG3 _ (by omega) (by omega)) (hoG3 _ (by omega) (by omega))).keep (hoG4 _ (by omega) (by omega)) (hoG4 _ (by omega) (by omega))).keep (ho86 _ (by omega)) (ho86 _ (by omega))), ((((hp2.has).keep (hoG3 _ (by omega) (by omega)) (hoG3 _ (by omega) (by omega))).keep (hoG4 _ (by omega) (by omega)) (hoG4 _ (by omega) (by omega))).keep (ho86 _ (by omega)) (ho86 _ (by omega))), ((((hq1.has.keep (ho2 _ (by omega) (by omega) (by omega) (by omega) (by omega)) (ho2 _ (by omega) (by omega) (by omega) (by omega) (by omega))).keep (hoG3 _ (by omega) (by omega)) (hoG3 _ (by omega) (by omega))).keep (hoG4 _ (by omega) (by omega)) (hoG4 _ (by omega) (by omega))).keep (ho86 _ (by omega)) (ho86 _ (by omega)))⟩, ⟨by rw [pr_mul_sg]; exact he86, by rw [pr_mn]; exact ((hm_G3.keep (hoG4 _ (by omega) (by omega)) (hoG4 _ (by omega) (by omega))).keep (ho86 _ (by omega)) (ho86 _ (by omega))), by rw [pr_md]; exact hm_G4.keep (ho86 _ (by omega)) (ho86 _ (by omega))⟩, fun i9 h1 h2 h3 h4 h5 h6 => (ho86 i9 h2).trans ((hoG4 i9 h5 h6).trans ((hoG3 i9 h3 h4).trans ((ho2 i9 (by omega) (by omega) (by omega) (by omega) (by omega)).trans (ho1 i9 (by omega) (by omega) (by omega) (by omega) (by omega)))))⟩)

set_option maxHeartbeats 4000000 in
set_option maxRecDepth 100000 in
/-- Arithmetic.takeAway -/
theorem p_takeAway (l : Launch) (D : va_G) (cI cJ cE cF cR : ClassId) (NP : Nat) (ad : Nat → Nat) (G : Nat → va_E) (a b ra rb m1 : Nat) (zl zr : Int) (ha : pWh cI ad G a ra (zl.natAbs : Int)) (hb9 : pWh cI ad G b rb (zr.natAbs : Int)) (hm1 : (zl.natAbs : Int) < bg_p m1) (hm2 : (zr.natAbs : Int) < bg_p m1) (hm : m1 + 1 ≤ ra) (hra9 : ra ≤ 1000) (hrb9 : rb ≤ 1000) (hab : a + 1 < b ∨ b + 1 < a) (hla : a + 1 < NP) (hlb : b + 1 < NP) : Ci l D (zty cI cJ cE cF cR) yX0_takeAway wsX0_takeAway (zRm 2 100) 0 0 [.ref (ad 6), .int (iZ (zl.sign)), .ref (ad a), .int (iZ (zr.sign)), .ref (ad b)] (pw NP ad G) (fun r w1 => ∃ G1 : Nat → va_E, w1 = pw NP ad G1 ∧ r = (zl - zr).sign ∧ pWh cI ad G1 a ra ((zl - zr).natAbs : Int) ∧ pHas cI ad G1 b rb ∧ ∀ i9 : Nat, i9 ≠ a → i9 ≠ a + 1 → i9 ≠ b → i9 ≠ b + 1 → G1 i9 = G i9) := by
  unfold Ci
  refine zs (Qc := zQi D _ _) (cc := cX0_takeAway) (maxL := 5) (ret := (some .int)) (by decide) rfl (Nat.le_of_ble_eq_true rfl) ?_
  intro zp ze s zm below meth zc ls A args Q hQ hx hb hr hts hown hlk hml hnm hN hA hK hP hD hS hl
  have hin9 : ∀ w ∈ wsX90, w ∈ wsX0_takeAway := by decide +kernel
  have hl : lv_has ls 5 [(0, .ref (ad 6)), (1, .int (iZ (zl.sign))), (2, .ref (ad a)), (3, .int (iZ (zr.sign))), (4, .ref (ad b))] := hl
  obtain ⟨na, da, hna, hna2, hna3⟩ := id ha
  obtain ⟨nb, db, hnb, hnb2, hnb3⟩ := id hb9
  refine lv_iload_n hx hb dX0_takeAway_0 rfl (lv_at hl 3 rfl) ?_
  refine zr_if_ne hx hb 6 ⟨by rcases sg_iR zr with q | q | q <;> rw [q] <;> decide, by rcases sg_iR zr with q | q | q <;> rw [q] <;> decide⟩ dX0_takeAway_1 (by decide) (fun h_1 => ?_) (fun h_1 => ?_)
  · refine lv_iload_n hx hb dX0_takeAway_6 rfl (lv_at hl 1 rfl) ?_
    refine zr_if_ne hx hb 19 ⟨by rcases sg_iR zl with q | q | q <;> rw [q] <;> decide, by rcases sg_iR zl with q | q | q <;> rw [q] <;> decide⟩ dX0_takeAway_7 (by decide) (fun h_7 => ?_) (fun h_7 => ?_)
    · refine lv_iload_n hx hb dX0_takeAway_19 rfl (lv_at hl 1 rfl) ?_
      refine lv_iload_n hx hb dX0_takeAway_20 rfl (lv_at hl 3 rfl) ?_
      refine zr_icmp_eq hx hb 32 ⟨by rcases sg_iR zl with q | q | q <;> rw [q] <;> decide, by rcases sg_iR zl with q | q | q <;> rw [q] <;> decide⟩ ⟨by rcases sg_iR zr with q | q | q <;> rw [q] <;> decide, by rcases sg_iR zr with q | q | q <;> rw [q] <;> decide⟩ dX0_takeAway_21 (by decide) (fun h_21 => ?_) (fun h_21 => ?_)
      · refine lv_aload_n hx hb dX0_takeAway_32 rfl (lv_at hl 2 rfl) ?_
        refine lv_aload hx hb dX0_takeAway_33 (lv_at hl 4 rfl) ?_
        refine zc_Vi (As := [.ref (ad b)]) (rest := []) (wr := []) ⟨hx, hb, hml, hown, hts⟩ (p_against l D cI cJ cE cF cR NP ad G a b ra rb (zl.natAbs : Int) (zr.natAbs : Int) ha hb9 (by omega) (by omega) hab ⟨by omega, by omega⟩) (cwV 1 hts gX0_takeAway_X9_against rfl rfl rfl (by decide +kernel) ⟨Nat.le_of_ble_eq_true rfl, Nat.le_of_ble_eq_true rfl⟩) hN hK hP hD hS hA (List.range NP) [] (pw_all _ _ _) rfl (pw_nd _) rfl (fun _ h9 => nomatch h9) (q0 := a) (ci := 9) rfl rfl (pw_at (by omega) (hna)) rfl hl.1 (Nat.le_of_ble_eq_true rfl) dX0_takeAway_35 ⟨by decide, by decide⟩ (fun rg w1 H locs hz35 hp hP hD hS => ?_)
        obtain ⟨G1, rfl, hg1, hg2, ho1⟩ := hp
        have ha1 := ha.keep (ho1 _) (ho1 _)
        have hb1 := hb9.keep (ho1 _) (ho1 _)
        obtain ⟨n1, d1, hac1, hac2, hac3⟩ := ha1
        obtain ⟨n2, d2, hbc1, hbc2, hbc3⟩ := hb1
        have ha1 := ha.keep (ho1 _) (ho1 _)
        have hb1 := hb9.keep (ho1 _) (ho1 _)
        have hP : va_P D vwCl (pw NP ad G1) H := hP
        have hD : va_D A (pw NP ad G1) := hD
        refine zr_if_lt hx hb 60 ⟨by omega, by omega⟩ dX0_takeAway_38 (by decide) (fun h_38 => ?_) (fun h_38 => ?_)
        · refine lv_aload hx hb dX0_takeAway_60 (lv_at hl 4 rfl) ?_
          refine lv_aload_n hx hb dX0_takeAway_62 rfl (lv_at hl 2 rfl) ?_
          refine zc_Vv (As := [.ref (ad a)]) (rest := []) (wr := []) ⟨hx, hb, hml, hown, hts⟩ (p_subtract l D cI cJ cE cF cR NP ad G1 b a rb ra (zr.natAbs : Int) (zl.natAbs : Int) hb1 ha1 (by omega) (by omega) (by omega) (by omega) ⟨by omega, by omega⟩) (cwV 1 hts gX0_takeAway_X9_subtract rfl rfl rfl (by decide +kernel) ⟨Nat.le_of_ble_eq_true rfl, Nat.le_of_ble_eq_true rfl⟩) hN hK hP hD hS hA (List.range NP) [] (pw_all _ _ _) rfl (pw_nd _) rfl (fun _ h9 => nomatch h9) (q0 := b) (ci := 9) rfl rfl (pw_at (by omega) (hbc1)) rfl hl.1 (Nat.le_of_ble_eq_true rfl) dX0_takeAway_63 ⟨by decide, by decide⟩ (fun w1 H locs hp hP hD hS => ?_)
          obtain ⟨G2, rfl, hc2, ho2⟩ := hp
          have ha2 := ha1.has.keep (ho2 _ (by omega) (by omega)) (ho2 _ (by omega) (by omega))
          obtain ⟨n4, d4, h4a, h4b⟩ := id ha2
          have hP : va_P D vwCl (pw NP ad G2) H := hP
          have hD : va_D A (pw NP ad G2) := hD
          refine lv_aload_n hx hb dX0_takeAway_66 rfl (lv_at hl 2 rfl) ?_
          refine lv_aload hx hb dX0_takeAway_67 (lv_at hl 4 rfl) ?_
          refine zc_Vv (As := [.ref (ad b)]) (rest := []) (wr := []) ⟨hx, hb, hml, hown, hts⟩ (p_copyFrom l D cI cJ cE cF cR NP ad G2 a b ra rb m1 ((zr.natAbs : Int) - (zl.natAbs : Int)) ha2 hc2 (by omega) (by omega) (by omega) (by omega) hab ⟨by omega, by omega⟩) (cwV 1 hts gX0_takeAway_X9_copyFrom rfl rfl rfl (by decide +kernel) ⟨Nat.le_of_ble_eq_true rfl, Nat.le_of_ble_eq_true rfl⟩) hN hK hP hD hS hA (List.range NP) [] (pw_all _ _ _) rfl (pw_nd _) rfl (fun _ h9 => nomatch h9) (q0 := a) (ci := 9) rfl rfl (pw_at (by omega) (h4a)) rfl hl.1 (Nat.le_of_ble_eq_true rfl) dX0_takeAway_69 ⟨by decide, by decide⟩ (fun w1 H locs hp hP hD hS => ?_)
          obtain ⟨G3, rfl, hc3, ho3⟩ := hp
          have hP : va_P D vwCl (pw NP ad G3) H := hP
          have hD : va_D A (pw NP ad G3) := hD
          refine lv_iload_n hx hb dX0_takeAway_72 rfl (lv_at hl 1 rfl) ?_
          refine zr_ineg hx hb dX0_takeAway_73 ?_
          exact zr_iret hQ hx hb hr hlk dX0_takeAway_74 hK hP hD hS (by omega) (by omega) (by rcases sg_iR zl with q | q | q <;> rw [q] <;> decide) (⟨G3, rfl, (pr_lt h_7 h_21 (by omega)).2.symm, by rw [(pr_lt h_7 h_21 (by omega)).1]; exact hc3, hc2.has.keep (ho3 _ (by omega) (by omega)) (ho3 _ (by omega) (by omega)), fun i9 h1 h2 h3 h4 => (ho3 i9 h1 h2).trans ((ho2 i9 h3 h4).trans (ho1 i9))⟩)
        · refine lv_aload_n hx hb dX0_takeAway_41 rfl (lv_at hl 2 rfl) ?_
          refine lv_aload hx hb dX0_takeAway_42 (lv_at hl 4 rfl) ?_
          refine zc_Vv (As := [.ref (ad b)]) (rest := []) (wr := []) ⟨hx, hb, hml, hown, hts⟩ (p_subtract l D cI cJ cE cF cR NP ad G1 a b ra rb (zl.natAbs : Int) (zr.natAbs : Int) ha1 hb1 (by omega) (by omega) (by omega) hab ⟨by omega, by omega⟩) (cwV 1 hts gX0_takeAway_X9_subtract rfl rfl rfl (by decide +kernel) ⟨Nat.le_of_ble_eq_true rfl, Nat.le_of_ble_eq_true rfl⟩) hN hK hP hD hS hA (List.range NP) [] (pw_all _ _ _) rfl (pw_nd _) rfl (fun _ h9 => nomatch h9) (q0 := a) (ci := 9) rfl rfl (pw_at (by omega) (hac1)) rfl hl.1 (Nat.le_of_ble_eq_true rfl) dX0_takeAway_44 ⟨by decide, by decide⟩ (fun w1 H locs hp hP hD hS => ?_)
          obtain ⟨G2, rfl, hc2, ho2⟩ := hp
          obtain ⟨n3, d3, h3a, h3b, h3c⟩ := id hc2
          have hzz := bg_ok_zero h3c
          have hn3 := h3c.1
          have hP : va_P D vwCl (pw NP ad G2) H := hP
          have hD : va_D A (pw NP ad G2) := hD
          have k44_1 : G2 (b) = .inr (9, [.ref (ad (b + 1)), .int (iZ (((n2 : Nat) : Int)))]) := (ho2 (b) (by omega) (by omega)).trans (hbc1)
          refine lv_aload_n hx hb dX0_takeAway_47 rfl (lv_at hl 2 rfl) ?_
          refine va_getN (D := D) (ci := 9) (v := .int (iZ (((n3 : Nat) : Int)))) (C := RX9) (T := TX9) (N := 2) hx hb hts hin9 hown hK hP (a) (pw_at (by omega) (h3a)) rfl 1 (by decide) (hN.F 8 rfl) (fun _ h9 => h9) rfl dX0_takeAway_48 ?_
          refine zr_if_ne hx hb 58 ⟨by omega, by omega⟩ dX0_takeAway_51 (by decide) (fun h_51 => ?_) (fun h_51 => ?_)
          · refine lv_iload_n hx hb dX0_takeAway_58 rfl (lv_at hl 1 rfl) ?_
            exact zr_iret hQ hx hb hr hlk dX0_takeAway_59 hK hP hD hS (by omega) (by omega) (by first | decide | exact ⟨by rcases sg_iR zl with q | q | q <;> rw [q] <;> decide, by rcases sg_iR zl with q | q | q <;> rw [q] <;> decide⟩) (⟨G2, rfl, ((pr_ge h_7 h_21 (by omega)).2.2 (by omega)).symm, by rw [(pr_ge h_7 h_21 (by omega)).1]; exact hc2, hb1.has.keep (ho2 _ (by omega) (by omega)) (ho2 _ (by omega) (by omega)), fun i9 h1 h2 h3 h4 => (ho2 i9 h1 h2).trans (ho1 i9)⟩)
          · refine lv_iconst (v := iZ 0) hx hb dX0_takeAway_54 rfl ?_
            refine lv_goto (tgt := 59) hx hb dX0_takeAway_55 (by decide) ?_
            exact zr_iret hQ hx hb hr hlk dX0_takeAway_59 hK hP hD hS (by omega) (by omega) (by first | decide | exact ⟨by rcases sg_iR zl with q | q | q <;> rw [q] <;> decide, by rcases sg_iR zl with q | q | q <;> rw [q] <;> decide⟩) (⟨G2, rfl, ((pr_ge h_7 h_21 (by omega)).2.1 (by omega)).symm, by rw [(pr_ge h_7 h_21 (by omega)).1]; exact hc2, hb1.has.keep (ho2 _ (by omega) (by omega)) (ho2 _ (by omega) (by omega)), fun i9 h1 h2 h3 h4 => (ho2 i9 h1 h2).trans (ho1 i9)⟩)
      · refine lv_aload_n hx hb dX0_takeAway_24 rfl (lv_at hl 2 rfl) ?_
        refine lv_aload hx hb dX0_takeAway_25 (lv_at hl 4 rfl) ?_
        refine zc_Vv (As := [.ref (ad b)]) (rest := []) (wr := []) ⟨hx, hb, hml, hown, hts⟩ (p_add l D cI cJ cE cF cR NP ad G a b ra rb m1 (zl.natAbs : Int) (zr.natAbs : Int) ha hb9 hm1 hm2 (by omega) (by omega) (by omega) hab ⟨by omega, by omega⟩) (cwV 1 hts gX0_takeAway_X9_add rfl rfl rfl (by decide +kernel) ⟨Nat.le_of_ble_eq_true rfl, Nat.le_of_ble_eq_true rfl⟩) hN hK hP hD hS hA (List.range NP) [] (pw_all _ _ _) rfl (pw_nd _) rfl (fun _ h9 => nomatch h9) (q0 := a) (ci := 9) rfl rfl (pw_at (by omega) (hna)) rfl hl.1 (Nat.le_of_ble_eq_true rfl) dX0_takeAway_27 ⟨by decide, by decide⟩ (fun w1 H locs hp hP hD hS => ?_)
        obtain ⟨G1, rfl, hc1, ho1⟩ := hp
        have hP : va_P D vwCl (pw NP ad G1) H := hP
        have hD : va_D A (pw NP ad G1) := hD
        refine lv_iload_n hx hb dX0_takeAway_30 rfl (lv_at hl 1 rfl) ?_
        exact zr_iret hQ hx hb hr hlk dX0_takeAway_31 hK hP hD hS (by omega) (by omega) ⟨by rcases sg_iR zl with q | q | q <;> rw [q] <;> decide, by rcases sg_iR zl with q | q | q <;> rw [q] <;> decide⟩ (⟨G1, rfl, (pr_op h_1 h_7 h_21).1, by rw [(pr_op h_1 h_7 h_21).2]; exact hc1, hb9.has.keep (ho1 _ (by omega) (by omega)) (ho1 _ (by omega) (by omega)), fun i9 h1 h2 h3 h4 => ho1 i9 h1 h2⟩)
    · refine lv_aload_n hx hb dX0_takeAway_10 rfl (lv_at hl 2 rfl) ?_
      refine lv_aload hx hb dX0_takeAway_11 (lv_at hl 4 rfl) ?_
      refine zc_Vv (As := [.ref (ad b)]) (rest := []) (wr := []) ⟨hx, hb, hml, hown, hts⟩ (p_copyFrom l D cI cJ cE cF cR NP ad G a b ra rb m1 (zr.natAbs : Int) ha.has hb9 hm2 (by omega) (by omega) (by omega) hab ⟨by omega, by omega⟩) (cwV 1 hts gX0_takeAway_X9_copyFrom rfl rfl rfl (by decide +kernel) ⟨Nat.le_of_ble_eq_true rfl, Nat.le_of_ble_eq_true rfl⟩) hN hK hP hD hS hA (List.range NP) [] (pw_all _ _ _) rfl (pw_nd _) rfl (fun _ h9 => nomatch h9) (q0 := a) (ci := 9) rfl rfl (pw_at (by omega) (hna)) rfl hl.1 (Nat.le_of_ble_eq_true rfl) dX0_takeAway_13 ⟨by decide, by decide⟩ (fun w1 H locs hp hP hD hS => ?_)
      obtain ⟨G1, rfl, hc1, ho1⟩ := hp
      have hP : va_P D vwCl (pw NP ad G1) H := hP
      have hD : va_D A (pw NP ad G1) := hD
      refine lv_iload_n hx hb dX0_takeAway_16 rfl (lv_at hl 3 rfl) ?_
      refine zr_ineg hx hb dX0_takeAway_17 ?_
      exact zr_iret hQ hx hb hr hlk dX0_takeAway_18 hK hP hD hS (by omega) (by omega) (by rcases sg_iR zr with q | q | q <;> rw [q] <;> decide) (⟨G1, rfl, by rw [pr_s0 h_7, Int.zero_sub, Int.sign_neg], by rw [pr_s0 h_7, Int.zero_sub, Int.natAbs_neg]; exact hc1, hb9.has.keep (ho1 _ (by omega) (by omega)) (ho1 _ (by omega) (by omega)), fun i9 h1 h2 h3 h4 => ho1 i9 h1 h2⟩)
  · refine lv_iload_n hx hb dX0_takeAway_4 rfl (lv_at hl 1 rfl) ?_
    exact zr_iret hQ hx hb hr hlk dX0_takeAway_5 hK hP hD hS (by omega) (by omega) ⟨by rcases sg_iR zl with q | q | q <;> rw [q] <;> decide, by rcases sg_iR zl with q | q | q <;> rw [q] <;> decide⟩ (⟨G, rfl, by rw [pr_s0 h_1, Int.sub_zero], by rw [pr_s0 h_1, Int.sub_zero]; exact ha, hb9.has, fun i9 _ _ _ _ => rfl⟩)
