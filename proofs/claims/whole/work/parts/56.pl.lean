
/-- a whole number's object k with its words k + 1: with room, with a value -/
def pHas (cI : ClassId) (ad : Nat → Nat) (G : Nat → va_E) (k room : Nat) : Prop := ∃ (c : Int) (g : Nat → Int), G k = .inr (9, [.ref (ad (k + 1)), .int (iZ c)]) ∧ G (k + 1) = aI cI room g
def pWh (cI : ClassId) (ad : Nat → Nat) (G : Nat → va_E) (k room : Nat) (v : Int) : Prop := ∃ (n : Nat) (g : Nat → Int), G k = .inr (9, [.ref (ad (k + 1)), .int (iZ ((n : Nat) : Int))]) ∧ G (k + 1) = aI cI room g ∧ bg_ok g n room v
theorem pWh.has {cI : ClassId} {ad : Nat → Nat} {G : Nat → va_E} {k room : Nat} {v : Int} (h : pWh cI ad G k room v) : pHas cI ad G k room := by
  obtain ⟨n, g, h1, h2, _⟩ := h
  exact ⟨_, g, h1, h2⟩
theorem pWh.keep {cI : ClassId} {ad : Nat → Nat} {G G' : Nat → va_E} {k room : Nat} {v : Int} (h : pWh cI ad G k room v) (h1 : G' k = G k) (h2 : G' (k + 1) = G (k + 1)) : pWh cI ad G' k room v := by
  obtain ⟨n, g, e1, e2, e3⟩ := h
  exact ⟨n, g, h1.trans e1, h2.trans e2, e3⟩
theorem pHas.keep {cI : ClassId} {ad : Nat → Nat} {G G' : Nat → va_E} {k room : Nat} (h : pHas cI ad G k room) (h1 : G' k = G k) (h2 : G' (k + 1) = G (k + 1)) : pHas cI ad G' k room := by
  obtain ⟨c, g, e1, e2⟩ := h
  exact ⟨c, g, h1.trans e1, h2.trans e2⟩
theorem pWh.nn {cI : ClassId} {ad : Nat → Nat} {G : Nat → va_E} {k room : Nat} {v : Int} (h : pWh cI ad G k room v) : 0 ≤ v := by
  obtain ⟨n, g, e1, e2, e3⟩ := h
  exact bg_ok_nn e3

theorem bg_ok_0 (g : Nat → Int) (room : Nat) : bg_ok g 0 room 0 := ⟨Nat.zero_le _, fun i hi => absurd hi (Nat.not_lt_zero i), fun h => absurd h (Nat.lt_irrefl 0), rfl⟩
/-- the rooms of division and of Euclid -/
def pEu (cI : ClassId) (ad : Nat → Nat) (G : Nat → va_E) : Prop := G 7 = .inr (1, [.ref (ad 8), .ref (ad 9)]) ∧ (∃ u : Nat → Int, G 8 = aI cI 97 u) ∧ (∃ u : Nat → Int, G 9 = aI cI 97 u) ∧ (∃ x1 x2 x3 x4 : Int, G 10 = .inr (5, [.ref (ad 7), .ref (ad 11), .ref (ad 13), .ref (ad 15), .ref (ad 17), .long (lZ x1), .long (lZ x2), .long (lZ x3), .long (lZ x4)])) ∧ pHas cI ad G 11 96 ∧ pHas cI ad G 13 96 ∧ pHas cI ad G 15 96 ∧ pHas cI ad G 17 96
theorem pEu.keep {cI : ClassId} {ad : Nat → Nat} {G G' : Nat → va_E} (h : pEu cI ad G) (hk : ∀ k : Nat, 7 ≤ k → k ≤ 18 → G' k = G k) : pEu cI ad G' := by
  obtain ⟨h1, ⟨u, h2⟩, ⟨v, h3⟩, ⟨x1, x2, x3, x4, h4⟩, h5, h6, h7, h8⟩ := h
  exact ⟨(hk 7 (by omega) (by omega)).trans h1, ⟨u, (hk 8 (by omega) (by omega)).trans h2⟩, ⟨v, (hk 9 (by omega) (by omega)).trans h3⟩, ⟨x1, x2, x3, x4, (hk 10 (by omega) (by omega)).trans h4⟩, h5.keep (hk 11 (by omega) (by omega)) (hk 12 (by omega) (by omega)), h6.keep (hk 13 (by omega) (by omega)) (hk 14 (by omega) (by omega)), h7.keep (hk 15 (by omega) (by omega)) (hk 16 (by omega) (by omega)), h8.keep (hk 17 (by omega) (by omega)) (hk 18 (by omega) (by omega))⟩

theorem bg_ok_quot {d e : Nat → Int} {n k ra rb rq : Nat} {v1 v2 : Int} (h1 : bg_ok d n ra v1) (h2 : bg_ok e k rb v2) (hv2 : 0 < v2) (hq : v1 / v2 < bg_p rq) : n ≤ rq + k := by
  have := bg_ok_lt h2
  have hk : n ≤ rq + k := by
    refine bg_ok_cnt h1 ?_
    rw [bg_p_add]
    have e1 := Int.mul_ediv_add_emod v1 v2
    have e2 := Int.emod_lt_of_pos v1 hv2
    have e3 : v2 * (v1 / v2 + 1) ≤ v2 * bg_p rq := Int.mul_le_mul_of_nonneg_left (by omega) (by omega)
    have e4 : v2 * bg_p rq ≤ bg_p k * bg_p rq := Int.mul_le_mul_of_nonneg_right (by omega) (Int.le_of_lt (bg_p_pos rq))
    rw [Int.mul_add, Int.mul_one] at e3
    rw [Int.mul_comm (bg_p rq)]
    omega
  exact hk
set_option maxHeartbeats 4000000 in
/-- multiply -/
theorem p_multiply (l : Launch) (D : va_G) (cI cJ cE cF cR : ClassId) (NP : Nat) (ad : Nat → Nat) (G : Nat → va_E) (r a b room r1 r2 m1 m2 : Nat) (v1 v2 : Int) (hr : pHas cI ad G r room) (ha : pWh cI ad G a r1 v1) (hb9 : pWh cI ad G b r2 v2) (hm1 : v1 < bg_p m1) (hm2 : v2 < bg_p m2) (hm : m1 + m2 ≤ room) (hroom : room ≤ 1000) (hr1 : r1 ≤ 1000) (hr2 : r2 ≤ 1000) (hra : r + 1 < a ∨ a + 1 < r) (hrb : r + 1 < b ∨ b + 1 < r) (hab : a + 1 < b ∨ b + 1 < a) (hNP : r + 1 < NP ∧ a + 1 < NP ∧ b + 1 < NP) : Cv l D (zty cI cJ cE cF cR) yX9_multiply wsX9_multiply (zRm 1 22) 0 0 [.ref (ad r), .ref (ad a), .ref (ad b)] (pw NP ad G) (fun w1 => ∃ G1 : Nat → va_E, w1 = pw NP ad G1 ∧ pWh cI ad G1 r room (v1 * v2) ∧ ∀ i9 : Nat, i9 ≠ r → i9 ≠ r + 1 → G1 i9 = G i9) := by
  obtain ⟨cn, g0, e1, e2⟩ := hr
  obtain ⟨n, d, a1, a2, a3⟩ := ha
  obtain ⟨k, e, b1, b2, b3⟩ := hb9
  have hn1 := bg_ok_cnt a3 hm1
  have hn2 := bg_ok_cnt b3 hm2
  refine (Cv.frame (c_multiply l D cI cJ cE cF cR (ad r) (ad (r + 1)) (ad a) (ad (a + 1)) (ad b) (ad (b + 1)) room r1 r2 n k cn g0 d e v1 v2 a3 b3 (by omega) (by omega) (by omega) (by omega)) [r, r + 1, a, a + 1, b, b + 1] (by simp <;> omega) (by simp [va_nd] <;> omega) (by simp only [List.map_cons, List.map_nil, e1, e2, a1, a2, b1, b2]) (by rintro u ⟨g, cnt, rfl, hg⟩; rfl)).weak ?_
  rintro u ⟨G1, rfl, ⟨g, cnt, hw, hg⟩, ho⟩
  exact ⟨G1, rfl, ⟨cnt, g, congrArg Prod.snd (Option.some.inj (congrArg (fun l9 => l9[0]?) hw)), congrArg Prod.snd (Option.some.inj (congrArg (fun l9 => l9[1]?) hw)), hg⟩, fun i9 hc0 hc1 => by
    by_cases w0 : i9 = a
    · rw [w0]; exact (congrArg Prod.snd (Option.some.inj (congrArg (fun l9 => l9[2]?) hw))).trans a1.symm
    by_cases w1 : i9 = a + 1
    · rw [w1]; exact (congrArg Prod.snd (Option.some.inj (congrArg (fun l9 => l9[3]?) hw))).trans a2.symm
    by_cases w2 : i9 = b
    · rw [w2]; exact (congrArg Prod.snd (Option.some.inj (congrArg (fun l9 => l9[4]?) hw))).trans b1.symm
    by_cases w3 : i9 = b + 1
    · rw [w3]; exact (congrArg Prod.snd (Option.some.inj (congrArg (fun l9 => l9[5]?) hw))).trans b2.symm
    exact ho i9 (by simp <;> omega)⟩

set_option maxHeartbeats 4000000 in
/-- copyFrom -/
theorem p_copyFrom (l : Launch) (D : va_G) (cI cJ cE cF cR : ClassId) (NP : Nat) (ad : Nat → Nat) (G : Nat → va_E) (r a room r1 m1 : Nat) (v1 : Int) (hr : pHas cI ad G r room) (ha : pWh cI ad G a r1 v1) (hm1 : v1 < bg_p m1) (hm : m1 ≤ room) (hroom : room ≤ 1000) (hr1 : r1 ≤ 1000) (hra : r + 1 < a ∨ a + 1 < r) (hNP : r + 1 < NP ∧ a + 1 < NP) : Cv l D (zty cI cJ cE cF cR) yX9_copyFrom wsX9_copyFrom (zRm 1 60) 0 0 [.ref (ad r), .ref (ad a)] (pw NP ad G) (fun w1 => ∃ G1 : Nat → va_E, w1 = pw NP ad G1 ∧ pWh cI ad G1 r room v1 ∧ ∀ i9 : Nat, i9 ≠ r → i9 ≠ r + 1 → G1 i9 = G i9) := by
  obtain ⟨cn, g0, e1, e2⟩ := hr
  obtain ⟨n, d, a1, a2, a3⟩ := ha
  have hn1 := bg_ok_cnt a3 hm1
  refine (Cv.frame (c_copyFrom l D cI cJ cE cF cR (ad r) (ad (r + 1)) (ad a) (ad (a + 1)) room r1 n cn g0 d v1 a3 (by omega) (by omega) (by omega)) [r, r + 1, a, a + 1] (by simp <;> omega) (by simp [va_nd] <;> omega) (by simp only [List.map_cons, List.map_nil, e1, e2, a1, a2]) (by rintro u ⟨g, cnt, rfl, hg⟩; rfl)).weak ?_
  rintro u ⟨G1, rfl, ⟨g, cnt, hw, hg⟩, ho⟩
  exact ⟨G1, rfl, ⟨cnt, g, congrArg Prod.snd (Option.some.inj (congrArg (fun l9 => l9[0]?) hw)), congrArg Prod.snd (Option.some.inj (congrArg (fun l9 => l9[1]?) hw)), hg⟩, fun i9 hc0 hc1 => by
    by_cases w0 : i9 = a
    · rw [w0]; exact (congrArg Prod.snd (Option.some.inj (congrArg (fun l9 => l9[2]?) hw))).trans a1.symm
    by_cases w1 : i9 = a + 1
    · rw [w1]; exact (congrArg Prod.snd (Option.some.inj (congrArg (fun l9 => l9[3]?) hw))).trans a2.symm
    exact ho i9 (by simp <;> omega)⟩

set_option maxHeartbeats 4000000 in
/-- add -/
theorem p_add (l : Launch) (D : va_G) (cI cJ cE cF cR : ClassId) (NP : Nat) (ad : Nat → Nat) (G : Nat → va_E) (r a room r1 m1 : Nat) (v0 v1 : Int) (hr : pWh cI ad G r room v0) (ha : pWh cI ad G a r1 v1) (hm0 : v0 < bg_p m1) (hm1 : v1 < bg_p m1) (hm : m1 + 1 ≤ room) (hroom : room ≤ 1000) (hr1 : r1 ≤ 1000) (hra : r + 1 < a ∨ a + 1 < r) (hNP : r + 1 < NP ∧ a + 1 < NP) : Cv l D (zty cI cJ cE cF cR) yX9_add wsX9_add (zRm 1 22) 0 0 [.ref (ad r), .ref (ad a)] (pw NP ad G) (fun w1 => ∃ G1 : Nat → va_E, w1 = pw NP ad G1 ∧ pWh cI ad G1 r room (v0 + v1) ∧ ∀ i9 : Nat, i9 ≠ r → i9 ≠ r + 1 → G1 i9 = G i9) := by
  obtain ⟨n0, d0, e1, e2, e3⟩ := hr
  obtain ⟨n, d, a1, a2, a3⟩ := ha
  have hn0 := bg_ok_cnt e3 hm0
  have hn1 := bg_ok_cnt a3 hm1
  refine (Cv.frame (c_add l D cI cJ cE cF cR (ad r) (ad (r + 1)) (ad a) (ad (a + 1)) room r1 n0 n (max n0 n) d0 d v0 v1 e3 a3 (by omega) (by omega) (by omega) (by omega) (by omega) (by omega)) [r, r + 1, a, a + 1] (by simp <;> omega) (by simp [va_nd] <;> omega) (by simp only [List.map_cons, List.map_nil, e1, e2, a1, a2]) (by rintro u ⟨g, cnt, rfl, hg⟩; rfl)).weak ?_
  rintro u ⟨G1, rfl, ⟨g, cnt, hw, hg⟩, ho⟩
  exact ⟨G1, rfl, ⟨cnt, g, congrArg Prod.snd (Option.some.inj (congrArg (fun l9 => l9[0]?) hw)), congrArg Prod.snd (Option.some.inj (congrArg (fun l9 => l9[1]?) hw)), hg⟩, fun i9 hc0 hc1 => by
    by_cases w0 : i9 = a
    · rw [w0]; exact (congrArg Prod.snd (Option.some.inj (congrArg (fun l9 => l9[2]?) hw))).trans a1.symm
    by_cases w1 : i9 = a + 1
    · rw [w1]; exact (congrArg Prod.snd (Option.some.inj (congrArg (fun l9 => l9[3]?) hw))).trans a2.symm
    exact ho i9 (by simp <;> omega)⟩

set_option maxHeartbeats 4000000 in
/-- subtract -/
theorem p_subtract (l : Launch) (D : va_G) (cI cJ cE cF cR : ClassId) (NP : Nat) (ad : Nat → Nat) (G : Nat → va_E) (r a room r1 : Nat) (v0 v1 : Int) (hr : pWh cI ad G r room v0) (ha : pWh cI ad G a r1 v1) (hle : v1 ≤ v0) (hroom : room ≤ 1000) (hr1 : r1 ≤ 1000) (hra : r + 1 < a ∨ a + 1 < r) (hNP : r + 1 < NP ∧ a + 1 < NP) : Cv l D (zty cI cJ cE cF cR) yX9_subtract wsX9_subtract (zRm 1 22) 0 0 [.ref (ad r), .ref (ad a)] (pw NP ad G) (fun w1 => ∃ G1 : Nat → va_E, w1 = pw NP ad G1 ∧ pWh cI ad G1 r room (v0 - v1) ∧ ∀ i9 : Nat, i9 ≠ r → i9 ≠ r + 1 → G1 i9 = G i9) := by
  obtain ⟨n0, d0, e1, e2, e3⟩ := hr
  obtain ⟨n, d, a1, a2, a3⟩ := ha
  refine (Cv.frame (c_subtract l D cI cJ cE cF cR (ad r) (ad (r + 1)) (ad a) (ad (a + 1)) room r1 n0 n d0 d v0 v1 e3 a3 (by omega) (by omega) hle) [r, r + 1, a, a + 1] (by simp <;> omega) (by simp [va_nd] <;> omega) (by simp only [List.map_cons, List.map_nil, e1, e2, a1, a2]) (by rintro u ⟨g, cnt, rfl, hg⟩; rfl)).weak ?_
  rintro u ⟨G1, rfl, ⟨g, cnt, hw, hg⟩, ho⟩
  exact ⟨G1, rfl, ⟨cnt, g, congrArg Prod.snd (Option.some.inj (congrArg (fun l9 => l9[0]?) hw)), congrArg Prod.snd (Option.some.inj (congrArg (fun l9 => l9[1]?) hw)), hg⟩, fun i9 hc0 hc1 => by
    by_cases w0 : i9 = a
    · rw [w0]; exact (congrArg Prod.snd (Option.some.inj (congrArg (fun l9 => l9[2]?) hw))).trans a1.symm
    by_cases w1 : i9 = a + 1
    · rw [w1]; exact (congrArg Prod.snd (Option.some.inj (congrArg (fun l9 => l9[3]?) hw))).trans a2.symm
    exact ho i9 (by simp <;> omega)⟩

set_option maxHeartbeats 4000000 in
/-- against -/
theorem p_against (l : Launch) (D : va_G) (cI cJ cE cF cR : ClassId) (NP : Nat) (ad : Nat → Nat) (G : Nat → va_E) (r a room r1 : Nat) (v0 v1 : Int) (hr : pWh cI ad G r room v0) (ha : pWh cI ad G a r1 v1) (hroom : room ≤ 1000) (hr1 : r1 ≤ 1000) (hra : r + 1 < a ∨ a + 1 < r) (hNP : r + 1 < NP ∧ a + 1 < NP) : Ci l D (zty cI cJ cE cF cR) yX9_against wsX9_against (zRm 0 0) 0 0 [.ref (ad r), .ref (ad a)] (pw NP ad G) (fun r w1 => ∃ G1 : Nat → va_E, w1 = pw NP ad G1 ∧ (r < 0 ↔ v0 < v1) ∧ (r = 0 ↔ v0 = v1) ∧ ∀ i9 : Nat, G1 i9 = G i9) := by
  obtain ⟨n0, d0, e1, e2, e3⟩ := hr
  obtain ⟨n, d, a1, a2, a3⟩ := ha
  refine (Ci.frame (c_against l D cI cJ cE cF cR (ad r) (ad (r + 1)) (ad a) (ad (a + 1)) room r1 n0 n d0 d v0 v1 e3 a3 (by omega) (by omega)) [r, r + 1, a, a + 1] (by simp <;> omega) (by simp [va_nd] <;> omega) (by simp only [List.map_cons, List.map_nil, e1, e2, a1, a2]) (by rintro z9 u ⟨rfl, hg⟩; rfl)).weak ?_
  rintro z9 u ⟨G1, rfl, ⟨hw, hg⟩, ho⟩
  exact ⟨G1, rfl, hg.1, hg.2, fun i9  => by
    by_cases w0 : i9 = r
    · rw [w0]; exact (congrArg Prod.snd (Option.some.inj (congrArg (fun l9 => l9[0]?) hw))).trans e1.symm
    by_cases w1 : i9 = r + 1
    · rw [w1]; exact (congrArg Prod.snd (Option.some.inj (congrArg (fun l9 => l9[1]?) hw))).trans e2.symm
    by_cases w2 : i9 = a
    · rw [w2]; exact (congrArg Prod.snd (Option.some.inj (congrArg (fun l9 => l9[2]?) hw))).trans a1.symm
    by_cases w3 : i9 = a + 1
    · rw [w3]; exact (congrArg Prod.snd (Option.some.inj (congrArg (fun l9 => l9[3]?) hw))).trans a2.symm
    exact ho i9 (by simp <;> omega)⟩

set_option maxHeartbeats 4000000 in
/-- assign -/
theorem p_assign (l : Launch) (D : va_G) (cI cJ cE cF cR : ClassId) (NP : Nat) (ad : Nat → Nat) (G : Nat → va_E) (r room : Nat) (z : Int) (hr : pHas cI ad G r room) (hz0 : 0 ≤ z ∧ z < 9223372036854775808) (hz : z < bg_p room) (hroom : room ≤ 1000) (hNP : r + 1 < NP) : Cv l D (zty cI cJ cE cF cR) yX9_assign wsX9_assign (zRm 0 0) 0 0 [.ref (ad r), .long (lZ z)] (pw NP ad G) (fun w1 => ∃ G1 : Nat → va_E, w1 = pw NP ad G1 ∧ pWh cI ad G1 r room z ∧ ∀ i9 : Nat, i9 ≠ r → i9 ≠ r + 1 → G1 i9 = G i9) := by
  obtain ⟨cn, g0, e1, e2⟩ := hr
  refine (Cv.frame (c_assign l D cI cJ cE cF cR (ad r) (ad (r + 1)) room cn g0 z hz0 hz (by omega)) [r, r + 1] (by simp <;> omega) (by simp [va_nd] <;> omega) (by simp only [List.map_cons, List.map_nil, e1, e2]) (by rintro u ⟨g, cnt, rfl, hg⟩; rfl)).weak ?_
  rintro u ⟨G1, rfl, ⟨g, cnt, hw, hg⟩, ho⟩
  exact ⟨G1, rfl, ⟨cnt, g, congrArg Prod.snd (Option.some.inj (congrArg (fun l9 => l9[0]?) hw)), congrArg Prod.snd (Option.some.inj (congrArg (fun l9 => l9[1]?) hw)), hg⟩, fun i9 hc0 hc1 => by
    exact ho i9 (by simp <;> omega)⟩

set_option maxHeartbeats 4000000 in
/-- clear -/
theorem p_clear (l : Launch) (D : va_G) (cI cJ cE cF cR : ClassId) (NP : Nat) (ad : Nat → Nat) (G : Nat → va_E) (r room : Nat) (hr : pHas cI ad G r room) (hNP : r + 1 < NP) : Cv l D (zty cI cJ cE cF cR) yX9_clear wsX9_clear (zRm 0 0) 0 0 [.ref (ad r)] (pw NP ad G) (fun w1 => ∃ G1 : Nat → va_E, w1 = pw NP ad G1 ∧ pWh cI ad G1 r room 0 ∧ ∀ i9 : Nat, i9 ≠ r → G1 i9 = G i9) := by
  obtain ⟨cn, g0, e1, e2⟩ := hr
  refine (Cv.frame (c_clear l D cI cJ cE cF cR (ad r) (ad (r + 1)) cn) [r] (by simp <;> omega) (by simp [va_nd] <;> omega) (by simp only [List.map_cons, List.map_nil, e1]) (by rintro u rfl; rfl)).weak ?_
  rintro u ⟨G1, rfl, hw, ho⟩
  exact ⟨G1, rfl, ⟨0, g0, congrArg Prod.snd (Option.some.inj (congrArg (fun l9 => l9[0]?) hw)), (ho (r + 1) (by simp)).trans e2, bg_ok_0 g0 room⟩, fun i9 hc0 => by
    exact ho i9 (by simp <;> omega)⟩

set_option maxHeartbeats 4000000 in
/-- divide -/
theorem p_divide (l : Launch) (D : va_G) (cI cJ cE cF cR : ClassId) (NP : Nat) (ad : Nat → Nat) (G : Nat → va_E) (a b q r ra rb rq rr m1 m2 : Nat) (v1 v2 : Int) (hE : pEu cI ad G) (ha : pWh cI ad G a ra v1) (hb9 : pWh cI ad G b rb v2) (hq : pHas cI ad G q rq) (hr : pHas cI ad G r rr) (hv2 : 0 < v2) (hm1 : v1 < bg_p m1) (hm2 : v2 < bg_p m2) (hm96 : m1 ≤ 96) (hmr : m2 ≤ rr) (mq : Nat) (hmq : v1 / v2 < bg_p mq) (hmq1 : mq + 1 ≤ rq) (hra9 : ra ≤ 1000) (hrb9 : rb ≤ 1000) (hrq9 : rq ≤ 1000) (hrr9 : rr ≤ 1000) (hab : a + 1 < b ∨ b + 1 < a) (haq : a + 1 < q ∨ q + 1 < a) (har : a + 1 < r ∨ r + 1 < a) (hbq : b + 1 < q ∨ q + 1 < b) (hbr : b + 1 < r ∨ r + 1 < b) (hqr : q + 1 < r ∨ r + 1 < q) (hla : 19 ≤ a) (hna : a + 1 < NP) (hlb : 19 ≤ b) (hnb : b + 1 < NP) (hlq : 19 ≤ q) (hnq : q + 1 < NP) (hlr : 19 ≤ r) (hnr : r + 1 < NP) : Cv l D (zty cI cJ cE cF cR) yX1_divide wsX1_divide (zRm 2 81) 0 0 [.ref (ad 7), .ref (ad a), .ref (ad b), .ref (ad q), .ref (ad r)] (pw NP ad G) (fun w1 => ∃ G1 : Nat → va_E, w1 = pw NP ad G1 ∧ pEu cI ad G1 ∧ pWh cI ad G1 q rq (v1 / v2) ∧ pWh cI ad G1 r rr (v1 % v2) ∧ ∀ i9 : Nat, i9 < 7 ∨ 18 < i9 → i9 ≠ q → i9 ≠ q + 1 → i9 ≠ r → i9 ≠ r + 1 → G1 i9 = G i9) := by
  obtain ⟨d1, ⟨u0, d2⟩, ⟨v0, d3⟩, ⟨x1, x2, x3, x4, hE4⟩, hE5, hE6, hE7, hE8⟩ := hE
  obtain ⟨n, d, a1, a2, a3⟩ := ha
  obtain ⟨k, e, b1, b2, b3⟩ := hb9
  obtain ⟨cq, gq0, q1, q2⟩ := hq
  obtain ⟨cr, gr0, r1, r2⟩ := hr
  have hn1 := bg_ok_cnt a3 hm1
  have hn2 := bg_ok_cnt b3 hm2
  have hfq := bg_ok_quot a3 b3 hv2 hmq
  refine (Cv.frame (c_divide l D cI cJ cE cF cR (ad 7) (ad 8) (ad 9) (ad a) (ad (a + 1)) (ad b) (ad (b + 1)) (ad q) (ad (q + 1)) (ad r) (ad (r + 1)) ra rb rq rr n k cq cr u0 v0 d e gq0 gr0 v1 v2 a3 b3 hv2 (by omega) (by omega) (by omega) (by omega) (by omega) (by omega) (by omega)) [7, 8, 9, a, a + 1, b, b + 1, q, q + 1, r, r + 1] (by simp <;> omega) (va_nd_app (a := [7, 8, 9]) (b := [a, a + 1, b, b + 1, q, q + 1, r, r + 1]) 19 (by decide) (by simp [va_nd] <;> omega) (by simp) (by simp <;> omega)) (by simp only [List.map_cons, List.map_nil, d1, d2, d3, a1, a2, b1, b2, q1, q2, r1, r2]) (by rintro u ⟨u, v, gq, gr, nq, nr, rfl, hg1, hg2⟩; rfl)).weak ?_
  rintro u ⟨G1, rfl, ⟨u, v, gq, gr, nq, nr, hw, hg1, hg2⟩, ho⟩
  refine ⟨G1, rfl, ⟨congrArg Prod.snd (Option.some.inj (congrArg (fun l9 => l9[0]?) hw)), ⟨u, congrArg Prod.snd (Option.some.inj (congrArg (fun l9 => l9[1]?) hw))⟩, ⟨v, congrArg Prod.snd (Option.some.inj (congrArg (fun l9 => l9[2]?) hw))⟩, ⟨x1, x2, x3, x4, (ho 10 (by simp <;> omega)).trans hE4⟩, hE5.keep (ho 11 (by simp <;> omega)) (ho 12 (by simp <;> omega)), hE6.keep (ho 13 (by simp <;> omega)) (ho 14 (by simp <;> omega)), hE7.keep (ho 15 (by simp <;> omega)) (ho 16 (by simp <;> omega)), hE8.keep (ho 17 (by simp <;> omega)) (ho 18 (by simp <;> omega))⟩, ⟨nq, gq, congrArg Prod.snd (Option.some.inj (congrArg (fun l9 => l9[7]?) hw)), congrArg Prod.snd (Option.some.inj (congrArg (fun l9 => l9[8]?) hw)), hg1⟩, ⟨nr, gr, congrArg Prod.snd (Option.some.inj (congrArg (fun l9 => l9[9]?) hw)), congrArg Prod.snd (Option.some.inj (congrArg (fun l9 => l9[10]?) hw)), hg2⟩, fun i9 hf hc0 hc1 hc2 hc3 => ?_⟩
  by_cases w0 : i9 = a
  · rw [w0]; exact (congrArg Prod.snd (Option.some.inj (congrArg (fun l9 => l9[3]?) hw))).trans a1.symm
  by_cases w1 : i9 = a + 1
  · rw [w1]; exact (congrArg Prod.snd (Option.some.inj (congrArg (fun l9 => l9[4]?) hw))).trans a2.symm
  by_cases w2 : i9 = b
  · rw [w2]; exact (congrArg Prod.snd (Option.some.inj (congrArg (fun l9 => l9[5]?) hw))).trans b1.symm
  by_cases w3 : i9 = b + 1
  · rw [w3]; exact (congrArg Prod.snd (Option.some.inj (congrArg (fun l9 => l9[6]?) hw))).trans b2.symm
  exact ho i9 (by simp <;> omega)

set_option maxHeartbeats 4000000 in
/-- cancel -/
theorem p_cancel (l : Launch) (D : va_G) (cI cJ cE cF cR : ClassId) (NP : Nat) (ad : Nat → Nat) (G : Nat → va_E) (a b p9 q ra rb rp rq m1 m2 : Nat) (v1 v2 : Int) (hE : pEu cI ad G) (ha : pWh cI ad G a ra v1) (hb9 : pWh cI ad G b rb v2) (hp : pHas cI ad G p9 rp) (hq : pHas cI ad G q rq) (hv2 : 0 < v2) (hm1 : v1 < bg_p m1) (hm2 : v2 < bg_p m2) (hm96 : m1 ≤ 96) (hm97 : m2 ≤ 96) (hmp : m1 ≤ rp) (hmq : m2 ≤ rq) (hra9 : ra ≤ 1000) (hrb9 : rb ≤ 1000) (hrp9 : rp ≤ 1000) (hrq9 : rq ≤ 1000) (hab : a + 1 < b ∨ b + 1 < a) (hap9 : a + 1 < p9 ∨ p9 + 1 < a) (haq : a + 1 < q ∨ q + 1 < a) (hbp9 : b + 1 < p9 ∨ p9 + 1 < b) (hbq : b + 1 < q ∨ q + 1 < b) (hp9q : p9 + 1 < q ∨ q + 1 < p9) (hla : 19 ≤ a) (hna : a + 1 < NP) (hlb : 19 ≤ b) (hnb : b + 1 < NP) (hlp9 : 19 ≤ p9) (hnp9 : p9 + 1 < NP) (hlq : 19 ≤ q) (hnq : q + 1 < NP) : Cv l D (zty cI cJ cE cF cR) yX5_cancel wsX5_cancel (zRm 3 110) 0 0 [.ref (ad 10), .ref (ad a), .ref (ad b), .ref (ad p9), .ref (ad q)] (pw NP ad G) (fun w1 => ∃ G1 : Nat → va_E, w1 = pw NP ad G1 ∧ pEu cI ad G1 ∧ pWh cI ad G1 p9 rp (v1 / ((Int.gcd v1 v2 : Nat) : Int)) ∧ pWh cI ad G1 q rq (v2 / ((Int.gcd v1 v2 : Nat) : Int)) ∧ ∀ i9 : Nat, i9 < 7 ∨ 18 < i9 → i9 ≠ p9 → i9 ≠ p9 + 1 → i9 ≠ q → i9 ≠ q + 1 → G1 i9 = G i9) := by
  obtain ⟨d1, ⟨u0, d2⟩, ⟨v0, d3⟩, ⟨x1, x2, x3, x4, f0⟩, ⟨c1, t1, s1, s2⟩, ⟨c2, t2, s3, s4⟩, ⟨c3, t3, s5, s6⟩, ⟨c4, t4, s7, s8⟩⟩ := hE
  obtain ⟨n, d, a1, a2, a3⟩ := ha
  obtain ⟨k, e, b1, b2, b3⟩ := hb9
  obtain ⟨cp, gp0, p1, p2⟩ := hp
  obtain ⟨cq, gq0, q1, q2⟩ := hq
  have hn1 := bg_ok_cnt a3 hm1
  have hn2 := bg_ok_cnt b3 hm2
  refine (Cv.frame (c_cancel l D cI cJ cE cF cR (ad 10) (ad 7) (ad 8) (ad 9) (ad 11) (ad 12) (ad 13) (ad 14) (ad 15) (ad 16) (ad 17) (ad 18) (ad a) (ad (a + 1)) (ad b) (ad (b + 1)) (ad p9) (ad (p9 + 1)) (ad q) (ad (q + 1)) ra rb rp rq n k x1 x2 x3 x4 c1 c2 c3 c4 cp cq u0 v0 t1 t2 t3 t4 d e gp0 gq0 v1 v2 a3 b3 hv2 (by omega) (by omega) (by omega) (by omega) (by omega) (by omega) (by omega) (by omega)) [10, 7, 8, 9, 11, 12, 13, 14, 15, 16, 17, 18, a, a + 1, b, b + 1, p9, p9 + 1, q, q + 1] (by simp <;> omega) (va_nd_app (a := [10, 7, 8, 9, 11, 12, 13, 14, 15, 16, 17, 18]) (b := [a, a + 1, b, b + 1, p9, p9 + 1, q, q + 1]) 19 (by decide) (by simp [va_nd] <;> omega) (by simp) (by simp <;> omega)) (by simp only [List.map_cons, List.map_nil, f0, d1, d2, d3, s1, s2, s3, s4, s5, s6, s7, s8, a1, a2, b1, b2, p1, p2, q1, q2]) (by rintro u ⟨y1, y2, y3, y4, z1, z2, z3, z4, u, v, o1, o2, o3, o4, gp, gq, np, nq, rfl, hg1, hg2⟩; rfl)).weak ?_
  rintro u ⟨G1, rfl, ⟨y1, y2, y3, y4, z1, z2, z3, z4, u, v, o1, o2, o3, o4, gp, gq, np, nq, hw, hg1, hg2⟩, ho⟩
  refine ⟨G1, rfl, ⟨congrArg Prod.snd (Option.some.inj (congrArg (fun l9 => l9[1]?) hw)), ⟨u, congrArg Prod.snd (Option.some.inj (congrArg (fun l9 => l9[2]?) hw))⟩, ⟨v, congrArg Prod.snd (Option.some.inj (congrArg (fun l9 => l9[3]?) hw))⟩, ⟨y1, y2, y3, y4, congrArg Prod.snd (Option.some.inj (congrArg (fun l9 => l9[0]?) hw))⟩, ⟨z1, o1, congrArg Prod.snd (Option.some.inj (congrArg (fun l9 => l9[4]?) hw)), congrArg Prod.snd (Option.some.inj (congrArg (fun l9 => l9[5]?) hw))⟩, ⟨z2, o2, congrArg Prod.snd (Option.some.inj (congrArg (fun l9 => l9[6]?) hw)), congrArg Prod.snd (Option.some.inj (congrArg (fun l9 => l9[7]?) hw))⟩, ⟨z3, o3, congrArg Prod.snd (Option.some.inj (congrArg (fun l9 => l9[8]?) hw)), congrArg Prod.snd (Option.some.inj (congrArg (fun l9 => l9[9]?) hw))⟩, ⟨z4, o4, congrArg Prod.snd (Option.some.inj (congrArg (fun l9 => l9[10]?) hw)), congrArg Prod.snd (Option.some.inj (congrArg (fun l9 => l9[11]?) hw))⟩⟩, ⟨np, gp, congrArg Prod.snd (Option.some.inj (congrArg (fun l9 => l9[16]?) hw)), congrArg Prod.snd (Option.some.inj (congrArg (fun l9 => l9[17]?) hw)), hg1⟩, ⟨nq, gq, congrArg Prod.snd (Option.some.inj (congrArg (fun l9 => l9[18]?) hw)), congrArg Prod.snd (Option.some.inj (congrArg (fun l9 => l9[19]?) hw)), hg2⟩, fun i9 hf hc0 hc1 hc2 hc3 => ?_⟩
  by_cases w0 : i9 = a
  · rw [w0]; exact (congrArg Prod.snd (Option.some.inj (congrArg (fun l9 => l9[12]?) hw))).trans a1.symm
  by_cases w1 : i9 = a + 1
  · rw [w1]; exact (congrArg Prod.snd (Option.some.inj (congrArg (fun l9 => l9[13]?) hw))).trans a2.symm
  by_cases w2 : i9 = b
  · rw [w2]; exact (congrArg Prod.snd (Option.some.inj (congrArg (fun l9 => l9[14]?) hw))).trans b1.symm
  by_cases w3 : i9 = b + 1
  · rw [w3]; exact (congrArg Prod.snd (Option.some.inj (congrArg (fun l9 => l9[15]?) hw))).trans b2.symm
  exact ho i9 (by simp <;> omega)

set_option maxHeartbeats 4000000 in
/-- cancel, in place -/
theorem p_cancelA (l : Launch) (D : va_G) (cI cJ cE cF cR : ClassId) (NP : Nat) (ad : Nat → Nat) (G : Nat → va_E) (a b q ra rb rq m1 m2 : Nat) (v1 v2 : Int) (hE : pEu cI ad G) (ha : pWh cI ad G a ra v1) (hb9 : pWh cI ad G b rb v2) (hq : pHas cI ad G q rq) (hv2 : 0 < v2) (hm1 : v1 < bg_p m1) (hm2 : v2 < bg_p m2) (hm96 : m1 ≤ 96) (hm97 : m2 ≤ 96) (hmq : m2 ≤ rq) (hra9 : ra ≤ 1000) (hrb9 : rb ≤ 1000) (hrq9 : rq ≤ 1000) (hab : a + 1 < b ∨ b + 1 < a) (haq : a + 1 < q ∨ q + 1 < a) (hbq : b + 1 < q ∨ q + 1 < b) (hla : 19 ≤ a) (hna : a + 1 < NP) (hlb : 19 ≤ b) (hnb : b + 1 < NP) (hlq : 19 ≤ q) (hnq : q + 1 < NP) : Cv l D (zty cI cJ cE cF cR) yX5_cancel wsX5_cancel (zRm 3 110) 0 0 [.ref (ad 10), .ref (ad a), .ref (ad b), .ref (ad a), .ref (ad q)] (pw NP ad G) (fun w1 => ∃ G1 : Nat → va_E, w1 = pw NP ad G1 ∧ pEu cI ad G1 ∧ pWh cI ad G1 a ra (v1 / ((Int.gcd v1 v2 : Nat) : Int)) ∧ pWh cI ad G1 q rq (v2 / ((Int.gcd v1 v2 : Nat) : Int)) ∧ ∀ i9 : Nat, i9 < 7 ∨ 18 < i9 → i9 ≠ a → i9 ≠ a + 1 → i9 ≠ q → i9 ≠ q + 1 → G1 i9 = G i9) := by
  obtain ⟨d1, ⟨u0, d2⟩, ⟨v0, d3⟩, ⟨x1, x2, x3, x4, f0⟩, ⟨c1, t1, s1, s2⟩, ⟨c2, t2, s3, s4⟩, ⟨c3, t3, s5, s6⟩, ⟨c4, t4, s7, s8⟩⟩ := hE
  obtain ⟨n, d, a1, a2, a3⟩ := ha
  obtain ⟨k, e, b1, b2, b3⟩ := hb9
  obtain ⟨cq, gq0, q1, q2⟩ := hq
  have hn1 := bg_ok_cnt a3 hm1
  have hn2 := bg_ok_cnt b3 hm2
  refine (Cv.frame (c_cancelA l D cI cJ cE cF cR (ad 10) (ad 7) (ad 8) (ad 9) (ad 11) (ad 12) (ad 13) (ad 14) (ad 15) (ad 16) (ad 17) (ad 18) (ad a) (ad (a + 1)) (ad b) (ad (b + 1)) (ad q) (ad (q + 1)) ra rb rq n k x1 x2 x3 x4 c1 c2 c3 c4 cq u0 v0 t1 t2 t3 t4 d e gq0 v1 v2 a3 b3 hv2 (by omega) (by omega) (by omega) (by omega) (by omega) (by omega)) [10, 7, 8, 9, 11, 12, 13, 14, 15, 16, 17, 18, a, a + 1, b, b + 1, q, q + 1] (by simp <;> omega) (va_nd_app (a := [10, 7, 8, 9, 11, 12, 13, 14, 15, 16, 17, 18]) (b := [a, a + 1, b, b + 1, q, q + 1]) 19 (by decide) (by simp [va_nd] <;> omega) (by simp) (by simp <;> omega)) (by simp only [List.map_cons, List.map_nil, f0, d1, d2, d3, s1, s2, s3, s4, s5, s6, s7, s8, a1, a2, b1, b2, q1, q2]) (by rintro u ⟨y1, y2, y3, y4, z1, z2, z3, z4, u, v, o1, o2, o3, o4, gp, gq, np, nq, rfl, hg1, hg2⟩; rfl)).weak ?_
  rintro u ⟨G1, rfl, ⟨y1, y2, y3, y4, z1, z2, z3, z4, u, v, o1, o2, o3, o4, gp, gq, np, nq, hw, hg1, hg2⟩, ho⟩
  refine ⟨G1, rfl, ⟨congrArg Prod.snd (Option.some.inj (congrArg (fun l9 => l9[1]?) hw)), ⟨u, congrArg Prod.snd (Option.some.inj (congrArg (fun l9 => l9[2]?) hw))⟩, ⟨v, congrArg Prod.snd (Option.some.inj (congrArg (fun l9 => l9[3]?) hw))⟩, ⟨y1, y2, y3, y4, congrArg Prod.snd (Option.some.inj (congrArg (fun l9 => l9[0]?) hw))⟩, ⟨z1, o1, congrArg Prod.snd (Option.some.inj (congrArg (fun l9 => l9[4]?) hw)), congrArg Prod.snd (Option.some.inj (congrArg (fun l9 => l9[5]?) hw))⟩, ⟨z2, o2, congrArg Prod.snd (Option.some.inj (congrArg (fun l9 => l9[6]?) hw)), congrArg Prod.snd (Option.some.inj (congrArg (fun l9 => l9[7]?) hw))⟩, ⟨z3, o3, congrArg Prod.snd (Option.some.inj (congrArg (fun l9 => l9[8]?) hw)), congrArg Prod.snd (Option.some.inj (congrArg (fun l9 => l9[9]?) hw))⟩, ⟨z4, o4, congrArg Prod.snd (Option.some.inj (congrArg (fun l9 => l9[10]?) hw)), congrArg Prod.snd (Option.some.inj (congrArg (fun l9 => l9[11]?) hw))⟩⟩, ⟨np, gp, congrArg Prod.snd (Option.some.inj (congrArg (fun l9 => l9[12]?) hw)), congrArg Prod.snd (Option.some.inj (congrArg (fun l9 => l9[13]?) hw)), hg1⟩, ⟨nq, gq, congrArg Prod.snd (Option.some.inj (congrArg (fun l9 => l9[16]?) hw)), congrArg Prod.snd (Option.some.inj (congrArg (fun l9 => l9[17]?) hw)), hg2⟩, fun i9 hf hc0 hc1 hc2 hc3 => ?_⟩
  by_cases w0 : i9 = b
  · rw [w0]; exact (congrArg Prod.snd (Option.some.inj (congrArg (fun l9 => l9[14]?) hw))).trans b1.symm
  by_cases w1 : i9 = b + 1
  · rw [w1]; exact (congrArg Prod.snd (Option.some.inj (congrArg (fun l9 => l9[15]?) hw))).trans b2.symm
  exact ho i9 (by simp <;> omega)
