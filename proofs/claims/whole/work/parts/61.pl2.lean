
theorem bg_cmp_sg {z s : Int} (h : bg_cmp z 0 s) : s = z.sign := by
  rcases h with ⟨q, w⟩ | ⟨q, w⟩ | ⟨q, w⟩
  · rw [w, Int.sign_eq_neg_one_of_neg q]
  · rw [w, q]; rfl
  · rw [w, Int.sign_eq_one_of_pos q]
/-- what was told, in the pool -/
def pEq (cJ : ClassId) (ad : Nat → Nat) (G : Nat → va_E) (n : Nat) (V : Nat → Rat) : Prop := G 2 = .inr (4, [.ref (ad 3), .ref (ad 4), .int (iZ ((n : Nat) : Int))]) ∧ ∃ a b : Nat → Int, G 3 = aJ cJ 42 a ∧ G 4 = aJ cJ 42 b ∧ eq_ok a b ∧ eq_V V a b
theorem pEq.keep {cJ : ClassId} {ad : Nat → Nat} {G G' : Nat → va_E} {n : Nat} {V : Nat → Rat} (h : pEq cJ ad G n V) (h2 : G' 2 = G 2) (h3 : G' 3 = G 3) (h4 : G' 4 = G 4) : pEq cJ ad G' n V := by
  obtain ⟨e1, a, b, e2, e3, e4⟩ := h
  exact ⟨h2.trans e1, a, b, h3.trans e2, h4.trans e3, e4⟩
theorem eq_row_m {V : Nat → Rat} {a b : Nat → Int} (hV : eq_V V a b) {i : Nat} : ∀ (c x : Nat), 7 * i + c ≤ 42 → eq_row a b i c x → x = mtr V i c := by
  intro c
  induction c with
  | zero => intro x _ h; exact h
  | succ c ih =>
    intro x hc h
    obtain ⟨r1, r2, h1, ⟨u, w, h2, h3, h4⟩, h5⟩ := h
    have e1 := ih r1 (by omega) h1
    obtain ⟨v1, v2⟩ := hV (7 * i + c) (by omega)
    have e2 : u = lcn (V (7 * i + c)).num.natAbs := lcn_u (by rw [v1]) h2
    have e3 : w = lcn (V (7 * i + c)).den := lcn_u v2.symm h3
    show x = mtr V i c + rl (V (7 * i + c))
    unfold rl
    omega
theorem eq_all_m {V : Nat → Rat} {a b : Nat → Int} (hV : eq_V V a b) {n : Nat} (hn : n ≤ 6) : ∀ (i x : Nat), i ≤ n → eq_all a b n i x → x = mta V n i := by
  intro i
  induction i with
  | zero => intro x _ h; exact h
  | succ i ih =>
    intro x hi h
    obtain ⟨r1, r2, h1, h2, h3⟩ := h
    have e1 := ih r1 (by omega) h1
    have e2 := eq_row_m hV (n + 1) r2 (by omega) h2
    show x = mta V n i + mtr V i (n + 1)
    omega

theorem eq_V_put {V : Nat → Rat} {a b : Nat → Int} {f : Nat} {nm dn : Int} (hV : eq_V V a b) (hok : eq_ok a b) (h1 : -2147483648 ≤ nm ∧ nm ≤ 2147483647) (h2 : -2147483648 ≤ dn ∧ dn ≤ 2147483647) (h0 : dn ≠ 0) : eq_ok (zu a f ((if dn < 0 then -nm else nm) / ((Nat.gcd nm.natAbs dn.natAbs : Nat) : Int))) (zu b f ((dn.natAbs : Int) / ((Nat.gcd nm.natAbs dn.natAbs : Nat) : Int))) ∧ eq_V (zu V f (mkRat (if dn < 0 then -nm else nm) dn.natAbs)) (zu a f ((if dn < 0 then -nm else nm) / ((Nat.gcd nm.natAbs dn.natAbs : Nat) : Int))) (zu b f ((dn.natAbs : Int) / ((Nat.gcd nm.natAbs dn.natAbs : Nat) : Int))) := by
  have h := md_set (nm := nm) h0 _ rfl
  have hd : 0 < dn.natAbs := by omega
  have hg : 0 < Nat.gcd nm.natAbs dn.natAbs := Nat.gcd_pos_of_pos_right _ hd
  have en : (mkRat (if dn < 0 then -nm else nm) dn.natAbs).num = (if dn < 0 then -nm else nm) / ((Nat.gcd nm.natAbs dn.natAbs : Nat) : Int) := by
    rw [Rat.num_mkRat]
    have : (if dn < 0 then -nm else nm).natAbs = nm.natAbs := by split <;> omega
    rw [this, if_neg (by omega), Nat.gcd_comm]
  have ed : (((mkRat (if dn < 0 then -nm else nm) dn.natAbs).den : Nat) : Int) = (dn.natAbs : Int) / ((Nat.gcd nm.natAbs dn.natAbs : Nat) : Int) := by
    rw [h.2.1]; rfl
  have c1 := Nat.div_le_self nm.natAbs (Nat.gcd nm.natAbs dn.natAbs)
  have c2 := Nat.div_le_self dn.natAbs (Nat.gcd nm.natAbs dn.natAbs)
  have c3 := (mkRat (if dn < 0 then -nm else nm) dn.natAbs).den_pos
  rw [← en, ← ed]
  refine ⟨fun j hj => ?_, fun j hj => ?_⟩
  · by_cases q : j = f
    · rw [q, zu_s, zu_s]
      have := h.1
      have := h.2.1
      exact ⟨⟨by omega, by omega⟩, by omega, by omega⟩
    · rw [zu_n _ _ q, zu_n _ _ q]
      exact hok j hj
  · by_cases q : j = f
    · rw [q, zu_s, zu_s, zu_s]
      exact ⟨rfl, rfl⟩
    · rw [zu_n _ _ q, zu_n _ _ q, zu_n _ _ q]
      exact hV j hj
theorem eq_V_0 {x y : Nat → Int} (h : ∀ j : Nat, j < 42 → x j = 0 ∧ y j = 1) : eq_ok x y ∧ eq_V (fun _ => 0) x y := by
  refine ⟨fun j hj => ?_, fun j hj => ?_⟩
  · obtain ⟨h1, h2⟩ := h j hj
    rw [h1, h2]; decide
  · obtain ⟨h1, h2⟩ := h j hj
    rw [h1, h2]; exact ⟨rfl, rfl⟩
set_option maxHeartbeats 4000000 in
/-- Fraction.clear -/
theorem p_fclear (l : Launch) (D : va_G) (cI cJ cE cF cR : ClassId) (NP : Nat) (ad : Nat → Nat) (G : Nat → va_E) (f room : Nat) (hf : pFh cI ad G f room) (hr1 : 1 ≤ room) (hr9 : room ≤ 1000) (hNP : f + 4 < NP) : Cv l D (zty cI cJ cE cF cR) yX6_clear wsX6_clear (zRm 1 24) 0 0 [.ref (ad f)] (pw NP ad G) (fun w1 => ∃ G1 : Nat → va_E, w1 = pw NP ad G1 ∧ pFr cI ad G1 f room 0 ∧ ∀ i9 : Nat, i9 ≠ f → i9 ≠ f + 1 → i9 ≠ f + 1 + 1 → i9 ≠ f + 3 → i9 ≠ f + 3 + 1 → G1 i9 = G i9) := by
  obtain ⟨⟨s0, e1⟩, ⟨cn, gn, e2, e3⟩, cd, gd, e4, e5⟩ := hf
  refine (Cv.frame (c_fclear l D cI cJ cE cF cR (ad f) (ad (f + 1)) (ad (f + 1 + 1)) (ad (f + 3)) (ad (f + 3 + 1)) room room s0 cn cd gn gd (by omega) (by omega)) [f, f + 1, f + 1 + 1, f + 3, f + 3 + 1] (by simp <;> omega) (by simp [va_nd] <;> omega) (by simp only [List.map_cons, List.map_nil, e1, e2, e3, e4, e5]) (by rintro u ⟨g1, n1, g2, n2, rfl, hg1, hg2⟩; rfl)).weak ?_
  rintro u ⟨G1, rfl, ⟨g1, n1, g2, n2, hw, hg1, hg2⟩, ho⟩
  exact ⟨G1, rfl, ⟨congrArg Prod.snd (Option.some.inj (congrArg (fun l9 => l9[0]?) hw)), ⟨n1, g1, congrArg Prod.snd (Option.some.inj (congrArg (fun l9 => l9[1]?) hw)), congrArg Prod.snd (Option.some.inj (congrArg (fun l9 => l9[2]?) hw)), hg1⟩, ⟨n2, g2, congrArg Prod.snd (Option.some.inj (congrArg (fun l9 => l9[3]?) hw)), congrArg Prod.snd (Option.some.inj (congrArg (fun l9 => l9[4]?) hw)), hg2⟩⟩, fun i9 hc0 hc1 hc2 hc3 hc4 => by
    exact ho i9 (by simp <;> omega)⟩

set_option maxHeartbeats 4000000 in
/-- Fraction.limbCount -/
theorem p_flimb (l : Launch) (D : va_G) (cI cJ cE cF cR : ClassId) (NP : Nat) (ad : Nat → Nat) (G : Nat → va_E) (f room : Nat) (x : Rat) (hf : pFr cI ad G f room x) (hr9 : room ≤ 1000) (hNP : f + 4 < NP) : Ci l D (zty cI cJ cE cF cR) yX6_limbCount wsX6_limbCount (zRm 2 44) 0 0 [.ref (ad f)] (pw NP ad G) (fun r w1 => ∃ G1 : Nat → va_E, w1 = pw NP ad G1 ∧ r = ((rl x : Nat) : Int) ∧ ∀ i9 : Nat, G1 i9 = G i9) := by
  obtain ⟨e1, ⟨nn, gn, e2, e3, o1⟩, nd, gd, e4, e5, o2⟩ := hf
  refine (Ci.frame (c_flimbCount l D cI cJ cE cF cR (ad f) (ad (f + 1)) (ad (f + 1 + 1)) (ad (f + 3)) (ad (f + 3 + 1)) room room nn nd x.num.sign _ _ gn gd o1 o2 hr9 hr9) [f, f + 1, f + 1 + 1, f + 3, f + 3 + 1] (by simp <;> omega) (by simp [va_nd] <;> omega) (by simp only [List.map_cons, List.map_nil, e1, e2, e3, e4, e5]) (by rintro z9 u ⟨rfl, x1, x2, hz9, q1, q2⟩; rfl)).weak ?_
  rintro z9 u ⟨G1, rfl, ⟨hw, x1, x2, hz9, q1, q2⟩, ho⟩
  exact ⟨G1, rfl, by rw [hz9, lcn_u rfl q1, lcn_u rfl q2]; unfold rl; omega, fun i9  => by
    by_cases w0 : i9 = f
    · rw [w0]; exact (congrArg Prod.snd (Option.some.inj (congrArg (fun l9 => l9[0]?) hw))).trans e1.symm
    by_cases w1 : i9 = f + 1
    · rw [w1]; exact (congrArg Prod.snd (Option.some.inj (congrArg (fun l9 => l9[1]?) hw))).trans e2.symm
    by_cases w2 : i9 = f + 1 + 1
    · rw [w2]; exact (congrArg Prod.snd (Option.some.inj (congrArg (fun l9 => l9[2]?) hw))).trans e3.symm
    by_cases w3 : i9 = f + 3
    · rw [w3]; exact (congrArg Prod.snd (Option.some.inj (congrArg (fun l9 => l9[3]?) hw))).trans e4.symm
    by_cases w4 : i9 = f + 3 + 1
    · rw [w4]; exact (congrArg Prod.snd (Option.some.inj (congrArg (fun l9 => l9[4]?) hw))).trans e5.symm
    exact ho i9 (by simp <;> omega)⟩

set_option maxHeartbeats 4000000 in
/-- Fraction.tell -/
theorem p_ftell (l : Launch) (D : va_G) (cI cJ cE cF cR : ClassId) (NP : Nat) (ad : Nat → Nat) (G : Nat → va_E) (f room : Nat) (x : Rat) (wh z : Int) (hf : pFr cI ad G f room x) (hwh : iR wh) (hz : iR z) (hr9 : room ≤ 1000) (hNP : f + 4 < NP) : Ci l D (zty cI cJ cE cF cR) yX6_tell wsX6_tell (zRm 3 69) 0 0 [.ref (ad f), .int (iZ wh), .int (iZ z)] (pw NP ad G) (fun r w1 => ∃ G1 : Nat → va_E, w1 = pw NP ad G1 ∧ bg_tl x.num.sign ((x.num.natAbs : Nat) : Int) ((x.den : Nat) : Int) wh z r ∧ ∀ i9 : Nat, G1 i9 = G i9) := by
  obtain ⟨e1, ⟨nn, gn, e2, e3, o1⟩, nd, gd, e4, e5, o2⟩ := hf
  refine (Ci.frame (c_ftell l D cI cJ cE cF cR (ad f) (ad (f + 1)) (ad (f + 1 + 1)) (ad (f + 3)) (ad (f + 3 + 1)) room room nn nd x.num.sign _ _ wh z gn gd o1 o2 hr9 hr9 (sg_r _) hwh hz) [f, f + 1, f + 1 + 1, f + 3, f + 3 + 1] (by simp <;> omega) (by simp [va_nd] <;> omega) (by simp only [List.map_cons, List.map_nil, e1, e2, e3, e4, e5]) (by rintro z9 u ⟨rfl, hg⟩; rfl)).weak ?_
  rintro z9 u ⟨G1, rfl, ⟨hw, hg⟩, ho⟩
  exact ⟨G1, rfl, hg, fun i9  => by
    by_cases w0 : i9 = f
    · rw [w0]; exact (congrArg Prod.snd (Option.some.inj (congrArg (fun l9 => l9[0]?) hw))).trans e1.symm
    by_cases w1 : i9 = f + 1
    · rw [w1]; exact (congrArg Prod.snd (Option.some.inj (congrArg (fun l9 => l9[1]?) hw))).trans e2.symm
    by_cases w2 : i9 = f + 1 + 1
    · rw [w2]; exact (congrArg Prod.snd (Option.some.inj (congrArg (fun l9 => l9[2]?) hw))).trans e3.symm
    by_cases w3 : i9 = f + 3
    · rw [w3]; exact (congrArg Prod.snd (Option.some.inj (congrArg (fun l9 => l9[3]?) hw))).trans e4.symm
    by_cases w4 : i9 = f + 3 + 1
    · rw [w4]; exact (congrArg Prod.snd (Option.some.inj (congrArg (fun l9 => l9[4]?) hw))).trans e5.symm
    exact ho i9 (by simp <;> omega)⟩

set_option maxHeartbeats 4000000 in
/-- Equations.show -/
theorem p_show (l : Launch) (D : va_G) (cI cJ cE cF cR : ClassId) (NP : Nat) (ad : Nat → Nat) (G : Nat → va_E) (n i j f room : Nat) (V : Nat → Rat) (hQ9 : pEq cJ ad G n V) (hf : pFh cI ad G f room) (hi : i < n) (hj : j ≤ n) (hn : n ≤ 6) (hr2 : 2 ≤ room) (hr9 : room ≤ 1000) (hf5 : 5 ≤ f) (hNP : f + 4 < NP) : Cv l D (zty cI cJ cE cF cR) yX4_show wsX4_show (zRm 3 65) 0 0 [.ref (ad 2), .int (iZ ((i : Nat) : Int)), .int (iZ ((j : Nat) : Int)), .ref (ad f)] (pw NP ad G) (fun w1 => ∃ G1 : Nat → va_E, w1 = pw NP ad G1 ∧ pFr cI ad G1 f room (V (7 * i + j)) ∧ ∀ i9 : Nat, i9 ≠ f → i9 ≠ f + 1 → i9 ≠ f + 1 + 1 → i9 ≠ f + 3 → i9 ≠ f + 3 + 1 → G1 i9 = G i9) := by
  obtain ⟨q1, a, b, q2, q3, hok, hV9⟩ := hQ9
  obtain ⟨⟨s0, e1⟩, ⟨cn, gn, e2, e3⟩, cd, gd, e4, e5⟩ := hf
  obtain ⟨w1, w2⟩ := hV9 (7 * i + j) (by omega)
  refine (Cv.frame (c_show l D cI cJ cE cF cR (ad 2) (ad 3) (ad 4) n i j (ad f) (ad (f + 1)) (ad (f + 1 + 1)) (ad (f + 3)) (ad (f + 3 + 1)) room room s0 cn cd a b gn gd hi hj hn hok hr2 hr2 hr9 hr9) [2, 3, 4, f, f + 1, f + 1 + 1, f + 3, f + 3 + 1] (by simp <;> omega) (by simp [va_nd] <;> omega) (by simp only [List.map_cons, List.map_nil, q1, q2, q3, e1, e2, e3, e4, e5]) (by rintro u ⟨sz, g1, n1, g2, n2, rfl, hs, hg1, hg2⟩; rfl)).weak ?_
  rintro u ⟨G1, rfl, ⟨sz, g1, n1, g2, n2, hw, hs, hg1, hg2⟩, ho⟩
  exact ⟨G1, rfl, ⟨by rw [w1, ← bg_cmp_sg hs]; exact congrArg Prod.snd (Option.some.inj (congrArg (fun l9 => l9[3]?) hw)), ⟨n1, g1, congrArg Prod.snd (Option.some.inj (congrArg (fun l9 => l9[4]?) hw)), congrArg Prod.snd (Option.some.inj (congrArg (fun l9 => l9[5]?) hw)), by rw [w1]; exact hg1⟩, ⟨n2, g2, congrArg Prod.snd (Option.some.inj (congrArg (fun l9 => l9[6]?) hw)), congrArg Prod.snd (Option.some.inj (congrArg (fun l9 => l9[7]?) hw)), by rw [w2]; exact hg2⟩⟩, fun i9 hc0 hc1 hc2 hc3 hc4 => by
    by_cases w0 : i9 = 2
    · rw [w0]; exact (congrArg Prod.snd (Option.some.inj (congrArg (fun l9 => l9[0]?) hw))).trans q1.symm
    by_cases w1 : i9 = 3
    · rw [w1]; exact (congrArg Prod.snd (Option.some.inj (congrArg (fun l9 => l9[1]?) hw))).trans q2.symm
    by_cases w2 : i9 = 4
    · rw [w2]; exact (congrArg Prod.snd (Option.some.inj (congrArg (fun l9 => l9[2]?) hw))).trans q3.symm
    exact ho i9 (by simp <;> omega)⟩

set_option maxHeartbeats 4000000 in
/-- Equations.numAt -/
theorem p_numAt (l : Launch) (D : va_G) (cI cJ cE cF cR : ClassId) (NP : Nat) (ad : Nat → Nat) (G : Nat → va_E) (n i j : Nat) (V : Nat → Rat) (hQ9 : pEq cJ ad G n V) (hi : i < n) (hj : j ≤ n) (hn : n ≤ 6) (hNP : 5 ≤ NP) : Cl l D (zty cI cJ cE cF cR) yX4_numAt wsX4_numAt (zRm 2 43) 0 0 [.ref (ad 2), .int (iZ ((i : Nat) : Int)), .int (iZ ((j : Nat) : Int))] (pw NP ad G) (fun r w1 => ∃ G1 : Nat → va_E, w1 = pw NP ad G1 ∧ r = (V (7 * i + j)).num ∧ ∀ i9 : Nat, G1 i9 = G i9) := by
  obtain ⟨q1, a, b, q2, q3, hok, hV9⟩ := hQ9
  obtain ⟨w1, w2⟩ := hV9 (7 * i + j) (by omega)
  have hok9 := hok (7 * i + j) (by omega)
  refine (Cl.frame (c_numAt l D cI cJ cE cF cR (ad 2) (ad 3) (ad 4) n i j a hi hj hn ⟨by omega, by omega⟩) [2, 3] (by simp <;> omega) (by simp [va_nd] <;> omega) (by simp only [List.map_cons, List.map_nil, q1, q2]) (by rintro z9 u ⟨rfl, hg⟩; rfl)).weak ?_
  rintro z9 u ⟨G1, rfl, ⟨hw, hg⟩, ho⟩
  exact ⟨G1, rfl, by rw [hg, w1], fun i9  => by
    by_cases w0 : i9 = 2
    · rw [w0]; exact (congrArg Prod.snd (Option.some.inj (congrArg (fun l9 => l9[0]?) hw))).trans q1.symm
    by_cases w1 : i9 = 3
    · rw [w1]; exact (congrArg Prod.snd (Option.some.inj (congrArg (fun l9 => l9[1]?) hw))).trans q2.symm
    exact ho i9 (by simp <;> omega)⟩

set_option maxHeartbeats 4000000 in
/-- Equations.denAt -/
theorem p_denAt (l : Launch) (D : va_G) (cI cJ cE cF cR : ClassId) (NP : Nat) (ad : Nat → Nat) (G : Nat → va_E) (n i j : Nat) (V : Nat → Rat) (hQ9 : pEq cJ ad G n V) (hi : i < n) (hj : j ≤ n) (hn : n ≤ 6) (hNP : 5 ≤ NP) : Cl l D (zty cI cJ cE cF cR) yX4_denAt wsX4_denAt (zRm 2 43) 0 0 [.ref (ad 2), .int (iZ ((i : Nat) : Int)), .int (iZ ((j : Nat) : Int))] (pw NP ad G) (fun r w1 => ∃ G1 : Nat → va_E, w1 = pw NP ad G1 ∧ r = ((V (7 * i + j)).den : Int) ∧ ∀ i9 : Nat, G1 i9 = G i9) := by
  obtain ⟨q1, a, b, q2, q3, hok, hV9⟩ := hQ9
  obtain ⟨w1, w2⟩ := hV9 (7 * i + j) (by omega)
  have hok9 := hok (7 * i + j) (by omega)
  refine (Cl.frame (c_denAt l D cI cJ cE cF cR (ad 2) (ad 3) (ad 4) n i j b hi hj hn ⟨by omega, by omega⟩) [2, 4] (by simp <;> omega) (by simp [va_nd] <;> omega) (by simp only [List.map_cons, List.map_nil, q1, q3]) (by rintro z9 u ⟨rfl, hg⟩; rfl)).weak ?_
  rintro z9 u ⟨G1, rfl, ⟨hw, hg⟩, ho⟩
  exact ⟨G1, rfl, by rw [hg, w2], fun i9  => by
    by_cases w0 : i9 = 2
    · rw [w0]; exact (congrArg Prod.snd (Option.some.inj (congrArg (fun l9 => l9[0]?) hw))).trans q1.symm
    by_cases w1 : i9 = 4
    · rw [w1]; exact (congrArg Prod.snd (Option.some.inj (congrArg (fun l9 => l9[1]?) hw))).trans q3.symm
    exact ho i9 (by simp <;> omega)⟩

set_option maxHeartbeats 4000000 in
/-- Equations.limbCount -/
theorem p_eqLimb (l : Launch) (D : va_G) (cI cJ cE cF cR : ClassId) (NP : Nat) (ad : Nat → Nat) (G : Nat → va_E) (n : Nat) (V : Nat → Rat) (hQ9 : pEq cJ ad G n V) (hn : n ≤ 6) (hNP : 5 ≤ NP) : Ci l D (zty cI cJ cE cF cR) yX4_limbCount wsX4_limbCount (zRm 3 65) 0 0 [.ref (ad 2)] (pw NP ad G) (fun r w1 => ∃ G1 : Nat → va_E, w1 = pw NP ad G1 ∧ r = ((mta V n n : Nat) : Int) ∧ ∀ i9 : Nat, G1 i9 = G i9) := by
  obtain ⟨q1, a, b, q2, q3, hok, hV9⟩ := hQ9
  refine (Ci.frame (c_eqLimbCount l D cI cJ cE cF cR (ad 2) (ad 3) (ad 4) n a b hn hok) [2, 3, 4] (by simp <;> omega) (by simp [va_nd] <;> omega) (by simp only [List.map_cons, List.map_nil, q1, q2, q3]) (by rintro z9 u ⟨rfl, x, hx1, hx2⟩; rfl)).weak ?_
  rintro z9 u ⟨G1, rfl, ⟨hw, x, hx1, hx2⟩, ho⟩
  exact ⟨G1, rfl, by rw [hx1, eq_all_m hV9 hn n x (Nat.le_refl n) hx2], fun i9  => by
    by_cases w0 : i9 = 2
    · rw [w0]; exact (congrArg Prod.snd (Option.some.inj (congrArg (fun l9 => l9[0]?) hw))).trans q1.symm
    by_cases w1 : i9 = 3
    · rw [w1]; exact (congrArg Prod.snd (Option.some.inj (congrArg (fun l9 => l9[1]?) hw))).trans q2.symm
    by_cases w2 : i9 = 4
    · rw [w2]; exact (congrArg Prod.snd (Option.some.inj (congrArg (fun l9 => l9[2]?) hw))).trans q3.symm
    exact ho i9 (by simp <;> omega)⟩

set_option maxHeartbeats 4000000 in
/-- Equations.hasRow -/
theorem p_hasRow (l : Launch) (D : va_G) (cI cJ cE cF cR : ClassId) (NP : Nat) (ad : Nat → Nat) (G : Nat → va_E) (n : Nat) (V : Nat → Rat) (hQ9 : pEq cJ ad G n V) (z : Int) (hz : iR z) (hn : n ≤ 6) (hNP : 5 ≤ NP) : Ci l D (zty cI cJ cE cF cR) yX4_hasRow wsX4_hasRow (zRm 0 0) 0 0 [.ref (ad 2), .int (iZ z)] (pw NP ad G) (fun r w1 => ∃ G1 : Nat → va_E, w1 = pw NP ad G1 ∧ (r = if (0 ≤ z ∧ z < n) then 1 else 0) ∧ ∀ i9 : Nat, G1 i9 = G i9) := by
  obtain ⟨q1, a, b, q2, q3, hok, hV9⟩ := hQ9
  refine (Ci.frame (c_hasRow l D cI cJ cE cF cR (ad 2) (ad 3) (ad 4) n z  hz  hn) [2] (by simp <;> omega) (by simp [va_nd] <;> omega) (by simp only [List.map_cons, List.map_nil, q1]) (by rintro z9 u ⟨rfl, hg⟩; rfl)).weak ?_
  rintro z9 u ⟨G1, rfl, ⟨hw, hg⟩, ho⟩
  exact ⟨G1, rfl, hg, fun i9  => by
    by_cases w0 : i9 = 2
    · rw [w0]; exact (congrArg Prod.snd (Option.some.inj (congrArg (fun l9 => l9[0]?) hw))).trans q1.symm
    exact ho i9 (by simp <;> omega)⟩

set_option maxHeartbeats 4000000 in
/-- Equations.hasPlace -/
theorem p_hasPlace (l : Launch) (D : va_G) (cI cJ cE cF cR : ClassId) (NP : Nat) (ad : Nat → Nat) (G : Nat → va_E) (n : Nat) (V : Nat → Rat) (hQ9 : pEq cJ ad G n V) (z y9 : Int) (hz : iR z) (hy9 : iR y9) (hn : n ≤ 6) (hNP : 5 ≤ NP) : Ci l D (zty cI cJ cE cF cR) yX4_hasPlace wsX4_hasPlace (zRm 1 21) 0 0 [.ref (ad 2), .int (iZ z), .int (iZ y9)] (pw NP ad G) (fun r w1 => ∃ G1 : Nat → va_E, w1 = pw NP ad G1 ∧ (r = if (0 ≤ z ∧ z < n ∧ 0 ≤ y9 ∧ y9 ≤ n) then 1 else 0) ∧ ∀ i9 : Nat, G1 i9 = G i9) := by
  obtain ⟨q1, a, b, q2, q3, hok, hV9⟩ := hQ9
  refine (Ci.frame (c_hasPlace l D cI cJ cE cF cR (ad 2) (ad 3) (ad 4) n z y9 hz hy9 hn) [2] (by simp <;> omega) (by simp [va_nd] <;> omega) (by simp only [List.map_cons, List.map_nil, q1]) (by rintro z9 u ⟨rfl, hg⟩; rfl)).weak ?_
  rintro z9 u ⟨G1, rfl, ⟨hw, hg⟩, ho⟩
  exact ⟨G1, rfl, hg, fun i9  => by
    by_cases w0 : i9 = 2
    · rw [w0]; exact (congrArg Prod.snd (Option.some.inj (congrArg (fun l9 => l9[0]?) hw))).trans q1.symm
    exact ho i9 (by simp <;> omega)⟩

set_option maxHeartbeats 4000000 in
/-- Equations.put -/
theorem p_put (l : Launch) (D : va_G) (cI cJ cE cF cR : ClassId) (NP : Nat) (ad : Nat → Nat) (G : Nat → va_E) (n i j : Nat) (nm dn : Int) (V : Nat → Rat) (hQ9 : pEq cJ ad G n V) (hi : i < n) (hj : j ≤ n) (hn : n ≤ 6) (h1 : -2147483648 ≤ nm ∧ nm ≤ 2147483647) (h2 : -2147483648 ≤ dn ∧ dn ≤ 2147483647) (h0 : dn ≠ 0) (hNP : 5 ≤ NP) : Cv l D (zty cI cJ cE cF cR) yX4_put wsX4_put (zRm 2 43) 0 0 [.ref (ad 2), .int (iZ ((i : Nat) : Int)), .int (iZ ((j : Nat) : Int)), .long (lZ nm), .long (lZ dn)] (pw NP ad G) (fun w1 => ∃ G1 : Nat → va_E, w1 = pw NP ad G1 ∧ pEq cJ ad G1 n (zu V (7 * i + j) (mkRat (if dn < 0 then -nm else nm) dn.natAbs)) ∧ ∀ i9 : Nat, i9 ≠ 2 → i9 ≠ 3 → i9 ≠ 4 → G1 i9 = G i9) := by
  obtain ⟨q1, a, b, q2, q3, hok, hV9⟩ := hQ9
  have hpv := eq_V_put (f := 7 * i + j) hV9 hok h1 h2 h0
  refine (Cv.frame (c_put l D cI cJ cE cF cR (ad 2) (ad 3) (ad 4) n i j nm dn a b hi hj hn ⟨by omega, by omega⟩ ⟨by omega, by omega⟩ h0) [2, 3, 4] (by simp <;> omega) (by simp [va_nd] <;> omega) (by simp only [List.map_cons, List.map_nil, q1, q2, q3]) (by rintro u rfl; rfl)).weak ?_
  rintro u ⟨G1, rfl, hw, ho⟩
  exact ⟨G1, rfl, ⟨congrArg Prod.snd (Option.some.inj (congrArg (fun l9 => l9[0]?) hw)), _, _, congrArg Prod.snd (Option.some.inj (congrArg (fun l9 => l9[1]?) hw)), congrArg Prod.snd (Option.some.inj (congrArg (fun l9 => l9[2]?) hw)), hpv.1, hpv.2⟩, fun i9 hc0 hc1 hc2 => by
    exact ho i9 (by simp <;> omega)⟩

set_option maxHeartbeats 4000000 in
/-- Equations.restart -/
theorem p_restart (l : Launch) (D : va_G) (cI cJ cE cF cR : ClassId) (NP : Nat) (ad : Nat → Nat) (G : Nat → va_E) (n k : Nat) (V : Nat → Rat) (hQ9 : pEq cJ ad G n V) (hNP : 5 ≤ NP) : Cv l D (zty cI cJ cE cF cR) yX4_restart wsX4_restart (zRm 0 0) 0 0 [.ref (ad 2), .int (iZ ((k : Nat) : Int))] (pw NP ad G) (fun w1 => ∃ G1 : Nat → va_E, w1 = pw NP ad G1 ∧ pEq cJ ad G1 k (fun _ => 0) ∧ ∀ i9 : Nat, i9 ≠ 2 → i9 ≠ 3 → i9 ≠ 4 → G1 i9 = G i9) := by
  obtain ⟨q1, a, b, q2, q3, hok, hV9⟩ := hQ9
  refine (Cv.frame (c_restart l D cI cJ cE cF cR (ad 2) (ad 3) (ad 4) ((n : Nat) : Int) ((k : Nat) : Int) a b) [2, 3, 4] (by simp <;> omega) (by simp [va_nd] <;> omega) (by simp only [List.map_cons, List.map_nil, q1, q2, q3]) (by rintro u ⟨x, y, rfl, hxy⟩; rfl)).weak ?_
  rintro u ⟨G1, rfl, ⟨x, y, hw, hxy⟩, ho⟩
  exact ⟨G1, rfl, ⟨congrArg Prod.snd (Option.some.inj (congrArg (fun l9 => l9[0]?) hw)), x, y, congrArg Prod.snd (Option.some.inj (congrArg (fun l9 => l9[1]?) hw)), congrArg Prod.snd (Option.some.inj (congrArg (fun l9 => l9[2]?) hw)), (eq_V_0 hxy).1, (eq_V_0 hxy).2⟩, fun i9 hc0 hc1 hc2 => by
    exact ho i9 (by simp <;> omega)⟩

set_option maxHeartbeats 4000000 in
/-- Residues.residue -/
theorem p_residue (l : Launch) (D : va_G) (cI cJ cE cF cR : ClassId) (NP : Nat) (ad : Nat → Nat) (G : Nat → va_E) (n : Nat) (q9 : Int) (V : Nat → Rat) (hQ9 : pEq cJ ad G n V) (hq0 : iR q9) (hr1 : G 473 = .inr (7, [.ref (ad 474)])) (hr2 : ∃ Z : Nat → Int, G 474 = aI cI 36 Z) (hn : n ≤ 6) (hNP : 475 ≤ NP) : Ci l D (zty cI cJ cE cF cR) yX7_residue wsX7_residue (zRm 4 110) 0 0 [.ref (ad 473), .ref (ad 2), .int (iZ q9)] (pw NP ad G) (fun r w1 => ∃ G1 : Nat → va_E, w1 = pw NP ad G1 ∧ pm_rel V n q9 r ∧ (∃ Z : Nat → Int, G1 474 = aI cI 36 Z) ∧ ∀ i9 : Nat, i9 ≠ 474 → G1 i9 = G i9) := by
  obtain ⟨q1, a, b, q2, q3, hok, hV9⟩ := hQ9
  obtain ⟨Z, hr2⟩ := hr2
  refine (Ci.frame (c_residue l D cI cJ cE cF cR (ad 473) (ad 474) (ad 2) (ad 3) (ad 4) n q9 a b Z V hn hq0 hok hV9) [473, 474, 2, 3, 4] (by simp <;> omega) (by simp [va_nd] <;> omega) (by simp only [List.map_cons, List.map_nil, hr1, hr2, q1, q2, q3]) (by rintro z9 u ⟨Z1, rfl, hz⟩; rfl)).weak ?_
  rintro z9 u ⟨G1, rfl, ⟨Z1, hw, hz⟩, ho⟩
  exact ⟨G1, rfl, hz, ⟨Z1, congrArg Prod.snd (Option.some.inj (congrArg (fun l9 => l9[1]?) hw))⟩, fun i9 hc0 => by
    by_cases w0 : i9 = 473
    · rw [w0]; exact (congrArg Prod.snd (Option.some.inj (congrArg (fun l9 => l9[0]?) hw))).trans hr1.symm
    by_cases w1 : i9 = 2
    · rw [w1]; exact (congrArg Prod.snd (Option.some.inj (congrArg (fun l9 => l9[2]?) hw))).trans q1.symm
    by_cases w2 : i9 = 3
    · rw [w2]; exact (congrArg Prod.snd (Option.some.inj (congrArg (fun l9 => l9[3]?) hw))).trans q2.symm
    by_cases w3 : i9 = 4
    · rw [w3]; exact (congrArg Prod.snd (Option.some.inj (congrArg (fun l9 => l9[4]?) hw))).trans q3.symm
    exact ho i9 (by simp <;> omega)⟩
