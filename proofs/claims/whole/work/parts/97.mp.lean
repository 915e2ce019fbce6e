/-! THE REFERENCE IN THE POOL, its numbers 480 .. 487 -/
def mSt (cI cJ : ClassId) (ad : Nat → Nat) (G : Nat → va_E) (V : Nat → Rat) (nn : Nat) (dn th : Int) : Prop := ∃ (F Ln Sg T0 B0 PR RS : Nat → Int) (sv rk tn ms : Int), G 480 = mo_ (ad 481) (ad 482) (ad 483) (ad 484) (ad 485) (ad 486) (ad 487) ((nn : Nat) : Int) dn sv rk tn ms th ∧ G 481 = aI cI 52200 F ∧ G 482 = aI cI 190 Ln ∧ G 483 = aI cI 90 Sg ∧ G 484 = aI cI 1300 T0 ∧ G 485 = aI cI 1300 B0 ∧ G 486 = aI cI 6 PR ∧ G 487 = aJ cJ 36 RS ∧ md_R V nn dn sv rk ms F Ln Sg PR
theorem mSt.ofW {cI cJ : ClassId} {ad : Nat → Nat} {G : Nat → va_E} {V : Nat → Rat} {nn : Nat} {dn th : Int} (h : md_W cI cJ (ad 480) (ad 481) (ad 482) (ad 483) (ad 484) (ad 485) (ad 486) (ad 487) V nn dn th ([480, 481, 482, 483, 484, 485, 486, 487].map (fun k => (ad k, G k)))) : mSt cI cJ ad G V nn dn th := by
  obtain ⟨F, Ln, Sg, T0, B0, PR, RS, sv, rk, tn, ms, hw, hR⟩ := h
  exact ⟨F, Ln, Sg, T0, B0, PR, RS, sv, rk, tn, ms, congrArg Prod.snd (Option.some.inj (congrArg (fun l9 => l9[0]?) hw)), congrArg Prod.snd (Option.some.inj (congrArg (fun l9 => l9[1]?) hw)), congrArg Prod.snd (Option.some.inj (congrArg (fun l9 => l9[2]?) hw)), congrArg Prod.snd (Option.some.inj (congrArg (fun l9 => l9[3]?) hw)), congrArg Prod.snd (Option.some.inj (congrArg (fun l9 => l9[4]?) hw)), congrArg Prod.snd (Option.some.inj (congrArg (fun l9 => l9[5]?) hw)), congrArg Prod.snd (Option.some.inj (congrArg (fun l9 => l9[6]?) hw)), congrArg Prod.snd (Option.some.inj (congrArg (fun l9 => l9[7]?) hw)), hR⟩
theorem mSt.keep {cI cJ : ClassId} {ad : Nat → Nat} {G G' : Nat → va_E} {V : Nat → Rat} {nn : Nat} {dn th : Int} (h : mSt cI cJ ad G V nn dn th) (hk : ∀ i : Nat, 480 ≤ i → G' i = G i) : mSt cI cJ ad G' V nn dn th := by
  obtain ⟨F, Ln, Sg, T0, B0, PR, RS, sv, rk, tn, ms, q0, q1, q2, q3, q4, q5, q6, q7, hR⟩ := h
  exact ⟨F, Ln, Sg, T0, B0, PR, RS, sv, rk, tn, ms, (hk _ (by omega)).trans q0, (hk _ (by omega)).trans q1, (hk _ (by omega)).trans q2, (hk _ (by omega)).trans q3, (hk _ (by omega)).trans q4, (hk _ (by omega)).trans q5, (hk _ (by omega)).trans q6, (hk _ (by omega)).trans q7, hR⟩
theorem mSt.dn {cI cJ : ClassId} {ad : Nat → Nat} {G : Nat → va_E} {V : Nat → Rat} {nn : Nat} {dn th : Int} (h : mSt cI cJ ad G V nn dn th) : dn = 0 ∨ dn = 1 := by
  obtain ⟨F, Ln, Sg, T0, B0, PR, RS, sv, rk, tn, ms, q0, q1, q2, q3, q4, q5, q6, q7, hR⟩ := h
  exact hR.dn.1

set_option maxHeartbeats 4000000 in
set_option maxRecDepth 100000 in
/-- size -/
theorem m_size (l : Launch) (D : va_G) (cI cJ cE cF cR : ClassId) (NP : Nat) (ad : Nat → Nat) (G : Nat → va_E) (V : Nat → Rat) (nn : Nat) (dn th : Int) (hM : mSt cI cJ ad G V nn dn th) (hNP : 488 ≤ NP) (z1 : Int) (hz1 : iR z1)  : Cv l D (zty cI cJ cE cF cR) yX11_size wsX11_size (zRm 4 110) 0 0 [.ref (ad 480), .int (iZ (z1))] (pw NP ad G) (fun w1 => ∃ G1 : Nat → va_E, w1 = pw NP ad G1 ∧ (∃ tc : Int, ((z1 < 1 ∨ 6 < z1) ∧ tc = 1 ∧ mSt cI cJ ad G1 (V) (nn) (dn) (tc)) ∨ ((1 ≤ z1 ∧ z1 ≤ 6) ∧ tc = 0 ∧ mSt cI cJ ad G1 (fun _ => 0) (z1.toNat) (0) (tc))) ∧ ∀ i9 : Nat, i9 < 480 ∨ 487 < i9 → G1 i9 = G i9) := by
  obtain ⟨F, Ln, Sg, T0, B0, PR, RS, sv, rk, tn, ms, q0, q1, q2, q3, q4, q5, q6, q7, hR⟩ := hM
  refine (Cv.frame (c_msize l D cI cJ cE cF cR (ad 480) (ad 481) (ad 482) (ad 483) (ad 484) (ad 485) (ad 486) (ad 487) nn dn sv rk tn ms th z1 F Ln Sg T0 B0 PR RS V hR hz1) [480, 481, 482, 483, 484, 485, 486, 487] (by simp <;> omega) (by decide) (by simp only [List.map_cons, List.map_nil, q0, q1, q2, q3, q4, q5, q6, q7]) (by rintro u ⟨tc, ⟨_, _, hw⟩ | ⟨_, _, hw⟩⟩ <;> (obtain ⟨_, _, _, _, _, _, _, _, _, _, _, rfl, _⟩ := hw; rfl))).weak ?_
  rintro u ⟨G1, rfl, ⟨tc, hp⟩, ho⟩
  refine ⟨G1, rfl, ⟨tc, ?_⟩, fun i9 h9 => ho i9 (by simp <;> omega)⟩
  rcases hp with ⟨h1, h2, hw⟩ | ⟨h1, h2, hw⟩
  · exact Or.inl ⟨h1, h2, mSt.ofW hw⟩
  · exact Or.inr ⟨h1, h2, mSt.ofW hw⟩

set_option maxHeartbeats 4000000 in
set_option maxRecDepth 100000 in
/-- set -/
theorem m_set (l : Launch) (D : va_G) (cI cJ cE cF cR : ClassId) (NP : Nat) (ad : Nat → Nat) (G : Nat → va_E) (V : Nat → Rat) (nn : Nat) (dn th : Int) (hM : mSt cI cJ ad G V nn dn th) (hNP : 488 ≤ NP) (z1 z2 z3 z4 : Int) (hz1 : iR z1) (hz2 : iR z2) (hz3 : iR z3) (hz4 : iR z4)  : Ci l D (zty cI cJ cE cF cR) yX11_set wsX11_set (zRm 3 90) 0 0 [.ref (ad 480), .int (iZ (z1)), .int (iZ (z2)), .int (iZ (z3)), .int (iZ (z4))] (pw NP ad G) (fun r w1 => ∃ G1 : Nat → va_E, w1 = pw NP ad G1 ∧ (∃ tc : Int, ((z1 < 0 ∨ (nn : Int) ≤ z1 ∨ z2 < 0 ∨ (nn : Int) ≤ z2) ∧ tc = 1 ∧ mSt cI cJ ad G1 (V) (nn) (dn) (tc)) ∨ (¬ (z1 < 0 ∨ (nn : Int) ≤ z1 ∨ z2 < 0 ∨ (nn : Int) ≤ z2) ∧ z4 = 0 ∧ tc = 2 ∧ mSt cI cJ ad G1 (V) (nn) (dn) (tc)) ∨ (¬ (z1 < 0 ∨ (nn : Int) ≤ z1 ∨ z2 < 0 ∨ (nn : Int) ≤ z2) ∧ z4 ≠ 0 ∧ tc = 0 ∧ mSt cI cJ ad G1 (zu V (7 * z1.toNat + z2.toNat) (mkRat (if z4 < 0 then -z3 else z3) z4.natAbs)) (nn) (0) (tc) ∧ r = ((mta (zu V (7 * z1.toNat + z2.toNat) (mkRat (if z4 < 0 then -z3 else z3) z4.natAbs)) nn nn : Nat) : Int))) ∧ ∀ i9 : Nat, i9 < 480 ∨ 487 < i9 → G1 i9 = G i9) := by
  obtain ⟨F, Ln, Sg, T0, B0, PR, RS, sv, rk, tn, ms, q0, q1, q2, q3, q4, q5, q6, q7, hR⟩ := hM
  refine (Ci.frame (c_mset l D cI cJ cE cF cR (ad 480) (ad 481) (ad 482) (ad 483) (ad 484) (ad 485) (ad 486) (ad 487) nn dn sv rk tn ms th z1 z2 z3 z4 F Ln Sg T0 B0 PR RS V hR hz1 hz2 hz3 hz4) [480, 481, 482, 483, 484, 485, 486, 487] (by simp <;> omega) (by decide) (by simp only [List.map_cons, List.map_nil, q0, q1, q2, q3, q4, q5, q6, q7]) (by rintro r u ⟨tc, ⟨_, _, hw⟩ | ⟨_, _, _, hw⟩ | ⟨_, _, _, hw, _⟩⟩ <;> (obtain ⟨_, _, _, _, _, _, _, _, _, _, _, rfl, _⟩ := hw; rfl))).weak ?_
  rintro r u ⟨G1, rfl, ⟨tc, hp⟩, ho⟩
  refine ⟨G1, rfl, ⟨tc, ?_⟩, fun i9 h9 => ho i9 (by simp <;> omega)⟩
  rcases hp with ⟨h1, h2, hw⟩ | ⟨h1, h2, h3, hw⟩ | ⟨h1, h2, h3, hw, h4⟩
  · exact Or.inl ⟨h1, h2, mSt.ofW hw⟩
  · exact Or.inr (Or.inl ⟨h1, h2, h3, mSt.ofW hw⟩)
  · exact Or.inr (Or.inr ⟨h1, h2, h3, mSt.ofW hw, h4⟩)

set_option maxHeartbeats 4000000 in
set_option maxRecDepth 100000 in
/-- right -/
theorem m_right (l : Launch) (D : va_G) (cI cJ cE cF cR : ClassId) (NP : Nat) (ad : Nat → Nat) (G : Nat → va_E) (V : Nat → Rat) (nn : Nat) (dn th : Int) (hM : mSt cI cJ ad G V nn dn th) (hNP : 488 ≤ NP) (z1 z3 z4 : Int) (hz1 : iR z1) (hz3 : iR z3) (hz4 : iR z4)  : Ci l D (zty cI cJ cE cF cR) yX11_right wsX11_right (zRm 3 90) 0 0 [.ref (ad 480), .int (iZ (z1)), .int (iZ (z3)), .int (iZ (z4))] (pw NP ad G) (fun r w1 => ∃ G1 : Nat → va_E, w1 = pw NP ad G1 ∧ (∃ tc : Int, ((z1 < 0 ∨ (nn : Int) ≤ z1) ∧ tc = 1 ∧ mSt cI cJ ad G1 (V) (nn) (dn) (tc)) ∨ (¬ (z1 < 0 ∨ (nn : Int) ≤ z1) ∧ z4 = 0 ∧ tc = 2 ∧ mSt cI cJ ad G1 (V) (nn) (dn) (tc)) ∨ (¬ (z1 < 0 ∨ (nn : Int) ≤ z1) ∧ z4 ≠ 0 ∧ tc = 0 ∧ mSt cI cJ ad G1 (zu V (7 * z1.toNat + nn) (mkRat (if z4 < 0 then -z3 else z3) z4.natAbs)) (nn) (0) (tc) ∧ r = ((mta (zu V (7 * z1.toNat + nn) (mkRat (if z4 < 0 then -z3 else z3) z4.natAbs)) nn nn : Nat) : Int))) ∧ ∀ i9 : Nat, i9 < 480 ∨ 487 < i9 → G1 i9 = G i9) := by
  obtain ⟨F, Ln, Sg, T0, B0, PR, RS, sv, rk, tn, ms, q0, q1, q2, q3, q4, q5, q6, q7, hR⟩ := hM
  refine (Ci.frame (c_mright l D cI cJ cE cF cR (ad 480) (ad 481) (ad 482) (ad 483) (ad 484) (ad 485) (ad 486) (ad 487) nn dn sv rk tn ms th z1 z3 z4 F Ln Sg T0 B0 PR RS V hR hz1 hz3 hz4) [480, 481, 482, 483, 484, 485, 486, 487] (by simp <;> omega) (by decide) (by simp only [List.map_cons, List.map_nil, q0, q1, q2, q3, q4, q5, q6, q7]) (by rintro r u ⟨tc, ⟨_, _, hw⟩ | ⟨_, _, _, hw⟩ | ⟨_, _, _, hw, _⟩⟩ <;> (obtain ⟨_, _, _, _, _, _, _, _, _, _, _, rfl, _⟩ := hw; rfl))).weak ?_
  rintro r u ⟨G1, rfl, ⟨tc, hp⟩, ho⟩
  refine ⟨G1, rfl, ⟨tc, ?_⟩, fun i9 h9 => ho i9 (by simp <;> omega)⟩
  rcases hp with ⟨h1, h2, hw⟩ | ⟨h1, h2, h3, hw⟩ | ⟨h1, h2, h3, hw, h4⟩
  · exact Or.inl ⟨h1, h2, mSt.ofW hw⟩
  · exact Or.inr (Or.inl ⟨h1, h2, h3, mSt.ofW hw⟩)
  · exact Or.inr (Or.inr ⟨h1, h2, h3, mSt.ofW hw, h4⟩)

set_option maxHeartbeats 4000000 in
set_option maxRecDepth 100000 in
/-- eliminate, a bad cap -/
theorem m_elim0 (l : Launch) (D : va_G) (cI cJ cE cF cR : ClassId) (NP : Nat) (ad : Nat → Nat) (G : Nat → va_E) (V : Nat → Rat) (nn : Nat) (dn th : Int) (hM : mSt cI cJ ad G V nn dn th) (hNP : 488 ≤ NP) (cp : Int) (hcp : iR cp) (hbad : cp < 0 ∨ 40000 < cp) : Ci l D (zty cI cJ cE cF cR) yX11_eliminate wsX11_eliminate (zRm 0 0) 0 0 [.ref (ad 480), .int (iZ (cp))] (pw NP ad G) (fun r w1 => ∃ G1 : Nat → va_E, w1 = pw NP ad G1 ∧ (r = 0 ∧ mSt cI cJ ad G1 (V) (nn) (dn) (1)) ∧ ∀ i9 : Nat, i9 < 480 ∨ 487 < i9 → G1 i9 = G i9) := by
  obtain ⟨F, Ln, Sg, T0, B0, PR, RS, sv, rk, tn, ms, q0, q1, q2, q3, q4, q5, q6, q7, hR⟩ := hM
  refine (Ci.frame (c_elim0 l D cI cJ cE cF cR (ad 480) (ad 481) (ad 482) (ad 483) (ad 484) (ad 485) (ad 486) (ad 487) nn dn sv rk tn ms th cp hcp hbad) [480] (by simp <;> omega) (by decide) (by simp only [List.map_cons, List.map_nil, q0]) (by rintro r u ⟨rfl, _⟩; rfl)).weak ?_
  rintro r u ⟨G1, rfl, ⟨hw, h1⟩, ho⟩
  exact ⟨G1, rfl, ⟨h1, ⟨F, Ln, Sg, T0, B0, PR, RS, _, _, _, _, congrArg Prod.snd (Option.some.inj (congrArg (fun l9 => l9[0]?) hw)), (ho 481 (by decide)).trans q1, (ho 482 (by decide)).trans q2, (ho 483 (by decide)).trans q3, (ho 484 (by decide)).trans q4, (ho 485 (by decide)).trans q5, (ho 486 (by decide)).trans q6, (ho 487 (by decide)).trans q7, hR⟩⟩, fun i9 h9 => ho i9 (by simp <;> omega)⟩

set_option maxHeartbeats 4000000 in
set_option maxRecDepth 100000 in
/-- eliminate, a good cap -/
theorem m_elim1 (l : Launch) (D : va_G) (cI cJ cE cF cR : ClassId) (NP : Nat) (ad : Nat → Nat) (G : Nat → va_E) (V : Nat → Rat) (nn : Nat) (dn th : Int) (hM : mSt cI cJ ad G V nn dn th) (hNP : 488 ≤ NP) (cp : Int) (hcp : iR cp) (hcl : 0 ≤ cp ∧ cp ≤ 40000) : Ci l D (zty cI cJ cE cF cR) yX11_eliminate wsX11_eliminate (zRm 9 290) 0 0 [.ref (ad 480), .int (iZ (cp))] (pw NP ad G) (fun r w1 => ∃ G1 : Nat → va_E, w1 = pw NP ad G1 ∧ (((((peH (pe V nn nn) : Nat) : Int) ≤ cp ∧ r = ((peR (pe V nn nn) : Nat) : Int) ∧ mSt cI cJ ad G1 (V) (nn) (1) (0)) ∨ (cp < ((peH (pe V nn nn) : Nat) : Int) ∧ r = -1 ∧ mSt cI cJ ad G1 (V) (nn) (0) (0)))) ∧ ∀ i9 : Nat, i9 < 480 ∨ 487 < i9 → G1 i9 = G i9) := by
  obtain ⟨F, Ln, Sg, T0, B0, PR, RS, sv, rk, tn, ms, q0, q1, q2, q3, q4, q5, q6, q7, hR⟩ := hM
  refine (Ci.frame (c_elim1 l D cI cJ cE cF cR (ad 480) (ad 481) (ad 482) (ad 483) (ad 484) (ad 485) (ad 486) (ad 487) nn dn sv rk tn ms th cp F Ln Sg T0 B0 PR V hcl hR.1.1 hR.1.2.1 hR.1.2.2 hR.2.1) [480, 481, 482, 483, 484, 485, 486] (by simp <;> omega) (by decide) (by simp only [List.map_cons, List.map_nil, q0, q1, q2, q3, q4, q5, q6]) (by rintro r u ⟨_, _, _, _, _, _, _, _, _, _, _, rfl, _⟩; rfl)).weak ?_
  rintro r u ⟨G1, rfl, ⟨F1, L1, S1, T1, B1, P1, d1, v1, r1, t1, m1, hw, hef, hp⟩, ho⟩
  have hA1 : md_A F1 L1 S1 0 V := fun j hj => (hef (0 + j) (by omega) (by omega)).f (hR.2.1 j hj)
  refine ⟨G1, rfl, ?_, fun i9 h9 => ho i9 (by simp <;> omega)⟩
  rcases hp with ⟨h1, h2, h3, h4⟩ | ⟨h1, h2, h3⟩
  · subst h3; exact Or.inl ⟨h1, h2, ⟨F1, L1, S1, T1, B1, P1, RS, _, _, _, _, congrArg Prod.snd (Option.some.inj (congrArg (fun l9 => l9[0]?) hw)), congrArg Prod.snd (Option.some.inj (congrArg (fun l9 => l9[1]?) hw)), congrArg Prod.snd (Option.some.inj (congrArg (fun l9 => l9[2]?) hw)), congrArg Prod.snd (Option.some.inj (congrArg (fun l9 => l9[3]?) hw)), congrArg Prod.snd (Option.some.inj (congrArg (fun l9 => l9[4]?) hw)), congrArg Prod.snd (Option.some.inj (congrArg (fun l9 => l9[5]?) hw)), congrArg Prod.snd (Option.some.inj (congrArg (fun l9 => l9[6]?) hw)), (ho 487 (by decide)).trans q7, ⟨hR.1, hA1, Or.inr ⟨rfl, h4⟩⟩⟩⟩
  · subst h3; exact Or.inr ⟨h1, h2, ⟨F1, L1, S1, T1, B1, P1, RS, _, _, _, _, congrArg Prod.snd (Option.some.inj (congrArg (fun l9 => l9[0]?) hw)), congrArg Prod.snd (Option.some.inj (congrArg (fun l9 => l9[1]?) hw)), congrArg Prod.snd (Option.some.inj (congrArg (fun l9 => l9[2]?) hw)), congrArg Prod.snd (Option.some.inj (congrArg (fun l9 => l9[3]?) hw)), congrArg Prod.snd (Option.some.inj (congrArg (fun l9 => l9[4]?) hw)), congrArg Prod.snd (Option.some.inj (congrArg (fun l9 => l9[5]?) hw)), congrArg Prod.snd (Option.some.inj (congrArg (fun l9 => l9[6]?) hw)), (ho 487 (by decide)).trans q7, ⟨hR.1, hA1, Or.inl rfl⟩⟩⟩

set_option maxHeartbeats 4000000 in
set_option maxRecDepth 100000 in
/-- rank -/
theorem m_rank (l : Launch) (D : va_G) (cI cJ cE cF cR : ClassId) (NP : Nat) (ad : Nat → Nat) (G : Nat → va_E) (V : Nat → Rat) (nn : Nat) (dn th : Int) (hM : mSt cI cJ ad G V nn dn th) (hNP : 488 ≤ NP)   : Ci l D (zty cI cJ cE cF cR) yX11_rank wsX11_rank (zRm 0 0) 0 0 [.ref (ad 480)] (pw NP ad G) (fun r w1 => ∃ G1 : Nat → va_E, w1 = pw NP ad G1 ∧ (((dn = 0 ∧ r = -1) ∨ (dn = 1 ∧ r = ((peR (pe V nn nn) : Nat) : Int))) ∧ mSt cI cJ ad G1 (V) (nn) (dn) (0)) ∧ ∀ i9 : Nat, i9 < 480 ∨ 487 < i9 → G1 i9 = G i9) := by
  obtain ⟨F, Ln, Sg, T0, B0, PR, RS, sv, rk, tn, ms, q0, q1, q2, q3, q4, q5, q6, q7, hR⟩ := hM
  refine (Ci.frame (c_mrank l D cI cJ cE cF cR (ad 480) (ad 481) (ad 482) (ad 483) (ad 484) (ad 485) (ad 486) (ad 487) nn dn sv rk tn ms th  F Ln Sg PR V hR) [480] (by simp <;> omega) (by decide) (by simp only [List.map_cons, List.map_nil, q0]) (by rintro r u ⟨rfl, _⟩; rfl)).weak ?_
  rintro r u ⟨G1, rfl, ⟨hw, h1⟩, ho⟩
  exact ⟨G1, rfl, ⟨h1, ⟨F, Ln, Sg, T0, B0, PR, RS, _, _, _, _, congrArg Prod.snd (Option.some.inj (congrArg (fun l9 => l9[0]?) hw)), (ho 481 (by decide)).trans q1, (ho 482 (by decide)).trans q2, (ho 483 (by decide)).trans q3, (ho 484 (by decide)).trans q4, (ho 485 (by decide)).trans q5, (ho 486 (by decide)).trans q6, (ho 487 (by decide)).trans q7, hR⟩⟩, fun i9 h9 => ho i9 (by simp <;> omega)⟩

set_option maxHeartbeats 4000000 in
set_option maxRecDepth 100000 in
/-- isSolvable -/
theorem m_isSolvable (l : Launch) (D : va_G) (cI cJ cE cF cR : ClassId) (NP : Nat) (ad : Nat → Nat) (G : Nat → va_E) (V : Nat → Rat) (nn : Nat) (dn th : Int) (hM : mSt cI cJ ad G V nn dn th) (hNP : 488 ≤ NP)   : Ci l D (zty cI cJ cE cF cR) yX11_isSolvable wsX11_isSolvable (zRm 0 0) 0 0 [.ref (ad 480)] (pw NP ad G) (fun r w1 => ∃ G1 : Nat → va_E, w1 = pw NP ad G1 ∧ (∃ tc : Int, ((dn = 0 ∧ tc = 1) ∨ (dn = 1 ∧ tc = 0 ∧ r = pe_svk (peM (pe V nn nn)) nn (peR (pe V nn nn)) (nn - peR (pe V nn nn)))) ∧ mSt cI cJ ad G1 (V) (nn) (dn) (tc)) ∧ ∀ i9 : Nat, i9 < 480 ∨ 487 < i9 → G1 i9 = G i9) := by
  obtain ⟨F, Ln, Sg, T0, B0, PR, RS, sv, rk, tn, ms, q0, q1, q2, q3, q4, q5, q6, q7, hR⟩ := hM
  refine (Ci.frame (c_misSolvable l D cI cJ cE cF cR (ad 480) (ad 481) (ad 482) (ad 483) (ad 484) (ad 485) (ad 486) (ad 487) nn dn sv rk tn ms th  F Ln Sg PR V hR) [480] (by simp <;> omega) (by decide) (by simp only [List.map_cons, List.map_nil, q0]) (by rintro r u ⟨_, rfl, _⟩; rfl)).weak ?_
  rintro r u ⟨G1, rfl, ⟨tc, hw, h1⟩, ho⟩
  exact ⟨G1, rfl, ⟨tc, h1, ⟨F, Ln, Sg, T0, B0, PR, RS, _, _, _, _, congrArg Prod.snd (Option.some.inj (congrArg (fun l9 => l9[0]?) hw)), (ho 481 (by decide)).trans q1, (ho 482 (by decide)).trans q2, (ho 483 (by decide)).trans q3, (ho 484 (by decide)).trans q4, (ho 485 (by decide)).trans q5, (ho 486 (by decide)).trans q6, (ho 487 (by decide)).trans q7, hR⟩⟩, fun i9 h9 => ho i9 (by simp <;> omega)⟩

set_option maxHeartbeats 4000000 in
set_option maxRecDepth 100000 in
/-- most -/
theorem m_most (l : Launch) (D : va_G) (cI cJ cE cF cR : ClassId) (NP : Nat) (ad : Nat → Nat) (G : Nat → va_E) (V : Nat → Rat) (nn : Nat) (dn th : Int) (hM : mSt cI cJ ad G V nn dn th) (hNP : 488 ≤ NP)  (hpH : peH (pe V nn nn) ≤ 2147483647) : Ci l D (zty cI cJ cE cF cR) yX11_most wsX11_most (zRm 0 0) 0 0 [.ref (ad 480)] (pw NP ad G) (fun r w1 => ∃ G1 : Nat → va_E, w1 = pw NP ad G1 ∧ (∃ tc : Int, ((dn = 0 ∧ tc = 1) ∨ (dn = 1 ∧ tc = 0 ∧ r = ((peH (pe V nn nn) : Nat) : Int))) ∧ mSt cI cJ ad G1 (V) (nn) (dn) (tc)) ∧ ∀ i9 : Nat, i9 < 480 ∨ 487 < i9 → G1 i9 = G i9) := by
  obtain ⟨F, Ln, Sg, T0, B0, PR, RS, sv, rk, tn, ms, q0, q1, q2, q3, q4, q5, q6, q7, hR⟩ := hM
  refine (Ci.frame (c_mmost l D cI cJ cE cF cR (ad 480) (ad 481) (ad 482) (ad 483) (ad 484) (ad 485) (ad 486) (ad 487) nn dn sv rk tn ms th  F Ln Sg PR V hR (fun h9 => by
    rcases hR.2.2 with h8 | ⟨_, h8⟩
    · omega
    · have h7 := h8.2.2.2.2.1
      have h6 := hpH
      omega)) [480] (by simp <;> omega) (by decide) (by simp only [List.map_cons, List.map_nil, q0]) (by rintro r u ⟨_, rfl, _⟩; rfl)).weak ?_
  rintro r u ⟨G1, rfl, ⟨tc, hw, h1⟩, ho⟩
  exact ⟨G1, rfl, ⟨tc, h1, ⟨F, Ln, Sg, T0, B0, PR, RS, _, _, _, _, congrArg Prod.snd (Option.some.inj (congrArg (fun l9 => l9[0]?) hw)), (ho 481 (by decide)).trans q1, (ho 482 (by decide)).trans q2, (ho 483 (by decide)).trans q3, (ho 484 (by decide)).trans q4, (ho 485 (by decide)).trans q5, (ho 486 (by decide)).trans q6, (ho 487 (by decide)).trans q7, hR⟩⟩, fun i9 h9 => ho i9 (by simp <;> omega)⟩

set_option maxHeartbeats 4000000 in
set_option maxRecDepth 100000 in
/-- pivot -/
theorem m_pivot (l : Launch) (D : va_G) (cI cJ cE cF cR : ClassId) (NP : Nat) (ad : Nat → Nat) (G : Nat → va_E) (V : Nat → Rat) (nn : Nat) (dn th : Int) (hM : mSt cI cJ ad G V nn dn th) (hNP : 488 ≤ NP) (y1 : Int) (hy1 : iR y1)  : Ci l D (zty cI cJ cE cF cR) yX11_pivot wsX11_pivot (zRm 1 40) 0 0 [.ref (ad 480), .int (iZ (y1))] (pw NP ad G) (fun r w1 => ∃ G1 : Nat → va_E, w1 = pw NP ad G1 ∧ (∃ tc : Int, ((((y1 < 0 ∨ (nn : Int) ≤ y1) ∧ tc = 1) ∨ (¬ (y1 < 0 ∨ (nn : Int) ≤ y1) ∧ dn = 0 ∧ tc = 2) ∨ (¬ (y1 < 0 ∨ (nn : Int) ≤ y1) ∧ dn = 1 ∧ tc = 0 ∧ r = peP (pe V nn nn) y1.toNat))) ∧ mSt cI cJ ad G1 (V) (nn) (dn) (tc)) ∧ ∀ i9 : Nat, i9 < 480 ∨ 487 < i9 → G1 i9 = G i9) := by
  obtain ⟨F, Ln, Sg, T0, B0, PR, RS, sv, rk, tn, ms, q0, q1, q2, q3, q4, q5, q6, q7, hR⟩ := hM
  refine (Ci.frame (c_mpivot l D cI cJ cE cF cR (ad 480) (ad 481) (ad 482) (ad 483) (ad 484) (ad 485) (ad 486) (ad 487) nn dn sv rk tn ms th y1 F Ln Sg PR V hR hy1) [480, 486] (by simp <;> omega) (by decide) (by simp only [List.map_cons, List.map_nil, q0, q6]) (by rintro r u ⟨_, rfl, _⟩; rfl)).weak ?_
  rintro r u ⟨G1, rfl, ⟨tc, hw, h1⟩, ho⟩
  exact ⟨G1, rfl, ⟨tc, h1, ⟨F, Ln, Sg, T0, B0, PR, RS, _, _, _, _, congrArg Prod.snd (Option.some.inj (congrArg (fun l9 => l9[0]?) hw)), (ho 481 (by decide)).trans q1, (ho 482 (by decide)).trans q2, (ho 483 (by decide)).trans q3, (ho 484 (by decide)).trans q4, (ho 485 (by decide)).trans q5, congrArg Prod.snd (Option.some.inj (congrArg (fun l9 => l9[1]?) hw)), (ho 487 (by decide)).trans q7, hR⟩⟩, fun i9 h9 => ho i9 (by simp <;> omega)⟩

set_option maxHeartbeats 4000000 in
set_option maxRecDepth 100000 in
/-- determinant -/
theorem m_determinant (l : Launch) (D : va_G) (cI cJ cE cF cR : ClassId) (NP : Nat) (ad : Nat → Nat) (G : Nat → va_E) (V : Nat → Rat) (nn : Nat) (dn th : Int) (hM : mSt cI cJ ad G V nn dn th) (hNP : 488 ≤ NP) (y2 y3 : Int) (hy2 : iR y2) (hy3 : iR y3)  : Ci l D (zty cI cJ cE cF cR) yX11_determinant wsX11_determinant (zRm 2 70) 0 0 [.ref (ad 480), .int (iZ (y2)), .int (iZ (y3))] (pw NP ad G) (fun r w1 => ∃ G1 : Nat → va_E, w1 = pw NP ad G1 ∧ (∃ tc : Int, ((((y2 < 0 ∨ 2 < y2) ∧ tc = 1) ∨ (¬ (y2 < 0 ∨ 2 < y2) ∧ dn = 0 ∧ tc = 2) ∨ (¬ (y2 < 0 ∨ 2 < y2) ∧ dn = 1 ∧ tc = 0 ∧ bg_tl (if peR (pe V nn nn) = nn then pe_dt (peM (pe V nn nn)) (peT (pe V nn nn)) nn else 0).num.sign (((if peR (pe V nn nn) = nn then pe_dt (peM (pe V nn nn)) (peT (pe V nn nn)) nn else 0).num.natAbs : Nat) : Int) (((if peR (pe V nn nn) = nn then pe_dt (peM (pe V nn nn)) (peT (pe V nn nn)) nn else 0).den : Nat) : Int) y2 y3 r))) ∧ mSt cI cJ ad G1 (V) (nn) (dn) (tc)) ∧ ∀ i9 : Nat, i9 < 480 ∨ 487 < i9 → G1 i9 = G i9) := by
  obtain ⟨F, Ln, Sg, T0, B0, PR, RS, sv, rk, tn, ms, q0, q1, q2, q3, q4, q5, q6, q7, hR⟩ := hM
  refine (Ci.frame (c_mdeterminant l D cI cJ cE cF cR (ad 480) (ad 481) (ad 482) (ad 483) (ad 484) (ad 485) (ad 486) (ad 487) nn dn sv rk tn ms th y2 y3 F Ln Sg PR V hR hy2 hy3) [480, 481, 482, 483] (by simp <;> omega) (by decide) (by simp only [List.map_cons, List.map_nil, q0, q1, q2, q3]) (by rintro r u ⟨_, rfl, _⟩; rfl)).weak ?_
  rintro r u ⟨G1, rfl, ⟨tc, hw, h1⟩, ho⟩
  exact ⟨G1, rfl, ⟨tc, h1, ⟨F, Ln, Sg, T0, B0, PR, RS, _, _, _, _, congrArg Prod.snd (Option.some.inj (congrArg (fun l9 => l9[0]?) hw)), congrArg Prod.snd (Option.some.inj (congrArg (fun l9 => l9[1]?) hw)), congrArg Prod.snd (Option.some.inj (congrArg (fun l9 => l9[2]?) hw)), congrArg Prod.snd (Option.some.inj (congrArg (fun l9 => l9[3]?) hw)), (ho 484 (by decide)).trans q4, (ho 485 (by decide)).trans q5, (ho 486 (by decide)).trans q6, (ho 487 (by decide)).trans q7, hR⟩⟩, fun i9 h9 => ho i9 (by simp <;> omega)⟩

set_option maxHeartbeats 4000000 in
set_option maxRecDepth 100000 in
/-- cell -/
theorem m_cell (l : Launch) (D : va_G) (cI cJ cE cF cR : ClassId) (NP : Nat) (ad : Nat → Nat) (G : Nat → va_E) (V : Nat → Rat) (nn : Nat) (dn th : Int) (hM : mSt cI cJ ad G V nn dn th) (hNP : 488 ≤ NP) (y1 y4 y2 y3 : Int) (hy1 : iR y1) (hy4 : iR y4) (hy2 : iR y2) (hy3 : iR y3)  : Ci l D (zty cI cJ cE cF cR) yX11_cell wsX11_cell (zRm 2 70) 0 0 [.ref (ad 480), .int (iZ (y1)), .int (iZ (y4)), .int (iZ (y2)), .int (iZ (y3))] (pw NP ad G) (fun r w1 => ∃ G1 : Nat → va_E, w1 = pw NP ad G1 ∧ (∃ tc : Int, (((((y1 < 0 ∨ (nn : Int) ≤ y1 ∨ y4 < 0 ∨ (nn : Int) < y4) ∨ (y2 < 0 ∨ 2 < y2)) ∧ tc = 1) ∨ (¬ ((y1 < 0 ∨ (nn : Int) ≤ y1 ∨ y4 < 0 ∨ (nn : Int) < y4) ∨ (y2 < 0 ∨ 2 < y2)) ∧ dn = 0 ∧ tc = 2) ∨ (¬ ((y1 < 0 ∨ (nn : Int) ≤ y1 ∨ y4 < 0 ∨ (nn : Int) < y4) ∨ (y2 < 0 ∨ 2 < y2)) ∧ dn = 1 ∧ tc = 0 ∧ bg_tl (peM (pe V nn nn) y1.toNat y4.toNat).num.sign (((peM (pe V nn nn) y1.toNat y4.toNat).num.natAbs : Nat) : Int) (((peM (pe V nn nn) y1.toNat y4.toNat).den : Nat) : Int) y2 y3 r))) ∧ mSt cI cJ ad G1 (V) (nn) (dn) (tc)) ∧ ∀ i9 : Nat, i9 < 480 ∨ 487 < i9 → G1 i9 = G i9) := by
  obtain ⟨F, Ln, Sg, T0, B0, PR, RS, sv, rk, tn, ms, q0, q1, q2, q3, q4, q5, q6, q7, hR⟩ := hM
  refine (Ci.frame (c_mcell l D cI cJ cE cF cR (ad 480) (ad 481) (ad 482) (ad 483) (ad 484) (ad 485) (ad 486) (ad 487) nn dn sv rk tn ms th y1 y4 y2 y3 F Ln Sg PR V hR hy1 hy4 hy2 hy3) [480, 481, 482, 483] (by simp <;> omega) (by decide) (by simp only [List.map_cons, List.map_nil, q0, q1, q2, q3]) (by rintro r u ⟨_, rfl, _⟩; rfl)).weak ?_
  rintro r u ⟨G1, rfl, ⟨tc, hw, h1⟩, ho⟩
  exact ⟨G1, rfl, ⟨tc, h1, ⟨F, Ln, Sg, T0, B0, PR, RS, _, _, _, _, congrArg Prod.snd (Option.some.inj (congrArg (fun l9 => l9[0]?) hw)), congrArg Prod.snd (Option.some.inj (congrArg (fun l9 => l9[1]?) hw)), congrArg Prod.snd (Option.some.inj (congrArg (fun l9 => l9[2]?) hw)), congrArg Prod.snd (Option.some.inj (congrArg (fun l9 => l9[3]?) hw)), (ho 484 (by decide)).trans q4, (ho 485 (by decide)).trans q5, (ho 486 (by decide)).trans q6, (ho 487 (by decide)).trans q7, hR⟩⟩, fun i9 h9 => ho i9 (by simp <;> omega)⟩

set_option maxHeartbeats 4000000 in
set_option maxRecDepth 100000 in
/-- told -/
theorem m_told (l : Launch) (D : va_G) (cI cJ cE cF cR : ClassId) (NP : Nat) (ad : Nat → Nat) (G : Nat → va_E) (V : Nat → Rat) (nn : Nat) (dn th : Int) (hM : mSt cI cJ ad G V nn dn th) (hNP : 488 ≤ NP) (y1 y4 y2 y3 : Int) (hy1 : iR y1) (hy4 : iR y4) (hy2 : iR y2) (hy3 : iR y3)  : Ci l D (zty cI cJ cE cF cR) yX11_told wsX11_told (zRm 2 70) 0 0 [.ref (ad 480), .int (iZ (y1)), .int (iZ (y4)), .int (iZ (y2)), .int (iZ (y3))] (pw NP ad G) (fun r w1 => ∃ G1 : Nat → va_E, w1 = pw NP ad G1 ∧ (∃ tc : Int, (((((y1 < 0 ∨ (nn : Int) ≤ y1 ∨ y4 < 0 ∨ (nn : Int) < y4) ∨ (y2 < 0 ∨ 2 < y2)) ∧ tc = 1) ∨ (¬ ((y1 < 0 ∨ (nn : Int) ≤ y1 ∨ y4 < 0 ∨ (nn : Int) < y4) ∨ (y2 < 0 ∨ 2 < y2)) ∧ tc = 0 ∧ bg_tl (V (7 * y1.toNat + y4.toNat)).num.sign (((V (7 * y1.toNat + y4.toNat)).num.natAbs : Nat) : Int) (((V (7 * y1.toNat + y4.toNat)).den : Nat) : Int) y2 y3 r))) ∧ mSt cI cJ ad G1 (V) (nn) (dn) (tc)) ∧ ∀ i9 : Nat, i9 < 480 ∨ 487 < i9 → G1 i9 = G i9) := by
  obtain ⟨F, Ln, Sg, T0, B0, PR, RS, sv, rk, tn, ms, q0, q1, q2, q3, q4, q5, q6, q7, hR⟩ := hM
  refine (Ci.frame (c_mtold l D cI cJ cE cF cR (ad 480) (ad 481) (ad 482) (ad 483) (ad 484) (ad 485) (ad 486) (ad 487) nn dn sv rk tn ms th y1 y4 y2 y3 F Ln Sg PR V hR hy1 hy4 hy2 hy3) [480, 481, 482, 483] (by simp <;> omega) (by decide) (by simp only [List.map_cons, List.map_nil, q0, q1, q2, q3]) (by rintro r u ⟨_, rfl, _⟩; rfl)).weak ?_
  rintro r u ⟨G1, rfl, ⟨tc, hw, h1⟩, ho⟩
  exact ⟨G1, rfl, ⟨tc, h1, ⟨F, Ln, Sg, T0, B0, PR, RS, _, _, _, _, congrArg Prod.snd (Option.some.inj (congrArg (fun l9 => l9[0]?) hw)), congrArg Prod.snd (Option.some.inj (congrArg (fun l9 => l9[1]?) hw)), congrArg Prod.snd (Option.some.inj (congrArg (fun l9 => l9[2]?) hw)), congrArg Prod.snd (Option.some.inj (congrArg (fun l9 => l9[3]?) hw)), (ho 484 (by decide)).trans q4, (ho 485 (by decide)).trans q5, (ho 486 (by decide)).trans q6, (ho 487 (by decide)).trans q7, hR⟩⟩, fun i9 h9 => ho i9 (by simp <;> omega)⟩

set_option maxHeartbeats 4000000 in
set_option maxRecDepth 100000 in
/-- meter -/
theorem m_meter (l : Launch) (D : va_G) (cI cJ cE cF cR : ClassId) (NP : Nat) (ad : Nat → Nat) (G : Nat → va_E) (V : Nat → Rat) (nn : Nat) (dn th : Int) (hM : mSt cI cJ ad G V nn dn th) (hNP : 488 ≤ NP)   : Ci l D (zty cI cJ cE cF cR) yX11_meter wsX11_meter (zRm 2 60) 0 0 [.ref (ad 480)] (pw NP ad G) (fun r w1 => ∃ G1 : Nat → va_E, w1 = pw NP ad G1 ∧ (r = ((mta V nn nn : Nat) : Int) ∧ mSt cI cJ ad G1 (V) (nn) (dn) (0)) ∧ ∀ i9 : Nat, i9 < 480 ∨ 487 < i9 → G1 i9 = G i9) := by
  obtain ⟨F, Ln, Sg, T0, B0, PR, RS, sv, rk, tn, ms, q0, q1, q2, q3, q4, q5, q6, q7, hR⟩ := hM
  refine (Ci.frame (c_mmeter l D cI cJ cE cF cR (ad 480) (ad 481) (ad 482) (ad 483) (ad 484) (ad 485) (ad 486) (ad 487) nn dn sv rk tn ms th  F Ln Sg PR V hR) [480, 482] (by simp <;> omega) (by decide) (by simp only [List.map_cons, List.map_nil, q0, q2]) (by rintro r u ⟨rfl, _⟩; rfl)).weak ?_
  rintro r u ⟨G1, rfl, ⟨hw, h1⟩, ho⟩
  exact ⟨G1, rfl, ⟨h1, ⟨F, Ln, Sg, T0, B0, PR, RS, _, _, _, _, congrArg Prod.snd (Option.some.inj (congrArg (fun l9 => l9[0]?) hw)), (ho 481 (by decide)).trans q1, congrArg Prod.snd (Option.some.inj (congrArg (fun l9 => l9[1]?) hw)), (ho 483 (by decide)).trans q3, (ho 484 (by decide)).trans q4, (ho 485 (by decide)).trans q5, (ho 486 (by decide)).trans q6, (ho 487 (by decide)).trans q7, hR⟩⟩, fun i9 h9 => ho i9 (by simp <;> omega)⟩

set_option maxHeartbeats 4000000 in
set_option maxRecDepth 100000 in
/-- solution -/
theorem m_solution (l : Launch) (D : va_G) (cI cJ cE cF cR : ClassId) (NP : Nat) (ad : Nat → Nat) (G : Nat → va_E) (V : Nat → Rat) (nn : Nat) (dn th : Int) (hM : mSt cI cJ ad G V nn dn th) (hNP : 488 ≤ NP) (y1 y2 y3 : Int) (hy1 : iR y1) (hy2 : iR y2) (hy3 : iR y3)  : Ci l D (zty cI cJ cE cF cR) yX11_solution wsX11_solution (zRm 9 290) 0 0 [.ref (ad 480), .int (iZ (y1)), .int (iZ (y2)), .int (iZ (y3))] (pw NP ad G) (fun r w1 => ∃ G1 : Nat → va_E, w1 = pw NP ad G1 ∧ (∃ tc : Int, (((((y1 < 0 ∨ (nn : Int) ≤ y1) ∨ (y2 < 0 ∨ 2 < y2)) ∧ tc = 1) ∨ (¬ ((y1 < 0 ∨ (nn : Int) ≤ y1) ∨ (y2 < 0 ∨ 2 < y2)) ∧ (dn = 0 ∨ pe_svk (peM (pe V nn nn)) nn (peR (pe V nn nn)) (nn - peR (pe V nn nn)) = 0) ∧ tc = 2) ∨ (¬ ((y1 < 0 ∨ (nn : Int) ≤ y1) ∨ (y2 < 0 ∨ 2 < y2)) ∧ ¬ (dn = 0 ∨ pe_svk (peM (pe V nn nn)) nn (peR (pe V nn nn)) (nn - peR (pe V nn nn)) = 0) ∧ tc = 0 ∧ bg_tl (pe_x (pe V nn nn) nn y1.toNat).num.sign (((pe_x (pe V nn nn) nn y1.toNat).num.natAbs : Nat) : Int) (((pe_x (pe V nn nn) nn y1.toNat).den : Nat) : Int) y2 y3 r))) ∧ mSt cI cJ ad G1 (V) (nn) (dn) (tc)) ∧ ∀ i9 : Nat, i9 < 480 ∨ 487 < i9 → G1 i9 = G i9) := by
  obtain ⟨F, Ln, Sg, T0, B0, PR, RS, sv, rk, tn, ms, q0, q1, q2, q3, q4, q5, q6, q7, hR⟩ := hM
  refine (Ci.frame (c_msolution l D cI cJ cE cF cR (ad 480) (ad 481) (ad 482) (ad 483) (ad 484) (ad 485) (ad 486) (ad 487) nn dn sv rk tn ms th y1 y2 y3 F Ln Sg T0 B0 PR V hR hy1 hy2 hy3) [480, 481, 482, 483, 484, 485, 486] (by simp <;> omega) (by decide) (by simp only [List.map_cons, List.map_nil, q0, q1, q2, q3, q4, q5, q6]) (by rintro r u ⟨_, _, _, _, _, _, rfl, _⟩; rfl)).weak ?_
  rintro r u ⟨G1, rfl, ⟨F1, L1, S1, T1, B1, tc, hw, hef, h1⟩, ho⟩
  refine ⟨G1, rfl, ⟨tc, ?_, ⟨F1, L1, S1, T1, B1, PR, RS, _, _, _, _, congrArg Prod.snd (Option.some.inj (congrArg (fun l9 => l9[0]?) hw)), congrArg Prod.snd (Option.some.inj (congrArg (fun l9 => l9[1]?) hw)), congrArg Prod.snd (Option.some.inj (congrArg (fun l9 => l9[2]?) hw)), congrArg Prod.snd (Option.some.inj (congrArg (fun l9 => l9[3]?) hw)), congrArg Prod.snd (Option.some.inj (congrArg (fun l9 => l9[4]?) hw)), congrArg Prod.snd (Option.some.inj (congrArg (fun l9 => l9[5]?) hw)), congrArg Prod.snd (Option.some.inj (congrArg (fun l9 => l9[6]?) hw)), (ho 487 (by decide)).trans q7, hR.keep hef⟩⟩, fun i9 h9 => ho i9 (by simp <;> omega)⟩
  have hsv : dn = 1 → sv = pe_svk (peM (pe V nn nn)) nn (peR (pe V nn nn)) (nn - peR (pe V nn nn)) := fun h9 => by
    rcases hR.2.2 with h8 | ⟨_, h8⟩
    · omega
    · exact h8.2.2.1
  have hdn := hR.dn.1
  rcases h1 with h2 | ⟨h2, h3, h4⟩ | ⟨h2, h3, h4, h5⟩
  · exact Or.inl h2
  · refine Or.inr (Or.inl ⟨h2, ?_, h4⟩)
    rcases hdn with h6 | h6
    · exact Or.inl h6
    · rcases h3 with h7 | h7
      · exact Or.inl h7
      · exact Or.inr (by rw [← hsv h6]; exact h7)
  · refine Or.inr (Or.inr ⟨h2, ?_, h5⟩)
    rw [← hsv h3]
    rintro (h6 | h6) <;> omega

set_option maxHeartbeats 4000000 in
set_option maxRecDepth 100000 in
/-- isRight -/
theorem m_isRight (l : Launch) (D : va_G) (cI cJ cE cF cR : ClassId) (NP : Nat) (ad : Nat → Nat) (G : Nat → va_E) (V : Nat → Rat) (nn : Nat) (dn th : Int) (hM : mSt cI cJ ad G V nn dn th) (hNP : 488 ≤ NP) (y1 : Int) (hy1 : iR y1)  : Ci l D (zty cI cJ cE cF cR) yX11_isRight wsX11_isRight (zRm 9 290) 0 0 [.ref (ad 480), .int (iZ (y1))] (pw NP ad G) (fun r w1 => ∃ G1 : Nat → va_E, w1 = pw NP ad G1 ∧ (∃ tc : Int, ((((y1 < 0 ∨ (nn : Int) ≤ y1) ∧ tc = 1) ∨ (¬ (y1 < 0 ∨ (nn : Int) ≤ y1) ∧ (dn = 0 ∨ pe_svk (peM (pe V nn nn)) nn (peR (pe V nn nn)) (nn - peR (pe V nn nn)) = 0) ∧ tc = 2) ∨ (¬ (y1 < 0 ∨ (nn : Int) ≤ y1) ∧ ¬ (dn = 0 ∨ pe_svk (peM (pe V nn nn)) nn (peR (pe V nn nn)) (nn - peR (pe V nn nn)) = 0) ∧ tc = 0 ∧ r = if pe_rs V (pe V nn nn) nn y1.toNat nn = V (7 * y1.toNat + nn) then 1 else 0))) ∧ mSt cI cJ ad G1 (V) (nn) (dn) (tc)) ∧ ∀ i9 : Nat, i9 < 480 ∨ 487 < i9 → G1 i9 = G i9) := by
  obtain ⟨F, Ln, Sg, T0, B0, PR, RS, sv, rk, tn, ms, q0, q1, q2, q3, q4, q5, q6, q7, hR⟩ := hM
  refine (Ci.frame (c_misRight l D cI cJ cE cF cR (ad 480) (ad 481) (ad 482) (ad 483) (ad 484) (ad 485) (ad 486) (ad 487) nn dn sv rk tn ms th y1 F Ln Sg T0 B0 PR V hR hy1) [480, 481, 482, 483, 484, 485, 486] (by simp <;> omega) (by decide) (by simp only [List.map_cons, List.map_nil, q0, q1, q2, q3, q4, q5, q6]) (by rintro r u ⟨_, _, _, _, _, _, rfl, _⟩; rfl)).weak ?_
  rintro r u ⟨G1, rfl, ⟨F1, L1, S1, T1, B1, tc, hw, hef, h1⟩, ho⟩
  refine ⟨G1, rfl, ⟨tc, ?_, ⟨F1, L1, S1, T1, B1, PR, RS, _, _, _, _, congrArg Prod.snd (Option.some.inj (congrArg (fun l9 => l9[0]?) hw)), congrArg Prod.snd (Option.some.inj (congrArg (fun l9 => l9[1]?) hw)), congrArg Prod.snd (Option.some.inj (congrArg (fun l9 => l9[2]?) hw)), congrArg Prod.snd (Option.some.inj (congrArg (fun l9 => l9[3]?) hw)), congrArg Prod.snd (Option.some.inj (congrArg (fun l9 => l9[4]?) hw)), congrArg Prod.snd (Option.some.inj (congrArg (fun l9 => l9[5]?) hw)), congrArg Prod.snd (Option.some.inj (congrArg (fun l9 => l9[6]?) hw)), (ho 487 (by decide)).trans q7, hR.keep hef⟩⟩, fun i9 h9 => ho i9 (by simp <;> omega)⟩
  have hsv : dn = 1 → sv = pe_svk (peM (pe V nn nn)) nn (peR (pe V nn nn)) (nn - peR (pe V nn nn)) := fun h9 => by
    rcases hR.2.2 with h8 | ⟨_, h8⟩
    · omega
    · exact h8.2.2.1
  have hdn := hR.dn.1
  rcases h1 with h2 | ⟨h2, h3, h4⟩ | ⟨h2, h3, h4, h5⟩
  · exact Or.inl h2
  · refine Or.inr (Or.inl ⟨h2, ?_, h4⟩)
    rcases hdn with h6 | h6
    · exact Or.inl h6
    · rcases h3 with h7 | h7
      · exact Or.inl h7
      · exact Or.inr (by rw [← hsv h6]; exact h7)
  · refine Or.inr (Or.inr ⟨h2, ?_, h5⟩)
    rw [← hsv h3]
    rintro (h6 | h6) <;> omega

set_option maxHeartbeats 4000000 in
set_option maxRecDepth 100000 in
/-- modulo -/
theorem m_modulo (l : Launch) (D : va_G) (cI cJ cE cF cR : ClassId) (NP : Nat) (ad : Nat → Nat) (G : Nat → va_E) (V : Nat → Rat) (nn : Nat) (dn th : Int) (hM : mSt cI cJ ad G V nn dn th) (hNP : 488 ≤ NP) (q9 : Int) (hq9 : iR q9)  : Ci l D (zty cI cJ cE cF cR) yX11_modulo wsX11_modulo (zRm 2 80) 0 0 [.ref (ad 480), .int (iZ (q9))] (pw NP ad G) (fun r w1 => ∃ G1 : Nat → va_E, w1 = pw NP ad G1 ∧ (pm_rel V nn q9 r ∧ mSt cI cJ ad G1 (V) (nn) (dn) (0)) ∧ ∀ i9 : Nat, i9 < 480 ∨ 487 < i9 → G1 i9 = G i9) := by
  obtain ⟨F, Ln, Sg, T0, B0, PR, RS, sv, rk, tn, ms, q0, q1, q2, q3, q4, q5, q6, q7, hR⟩ := hM
  refine (Ci.frame (c_mmodulo l D cI cJ cE cF cR (ad 480) (ad 481) (ad 482) (ad 483) (ad 484) (ad 485) (ad 486) (ad 487) nn dn sv rk tn ms th q9 F Ln Sg RS V hq9 hR.1.1 hR.1.2.1 hR.2.1) [480, 481, 482, 483, 487] (by simp <;> omega) (by decide) (by simp only [List.map_cons, List.map_nil, q0, q1, q2, q3, q7]) (by rintro r u ⟨_, rfl, _⟩; rfl)).weak ?_
  rintro r u ⟨G1, rfl, ⟨Z, hw, h1⟩, ho⟩
  exact ⟨G1, rfl, ⟨h1, ⟨F, Ln, Sg, T0, B0, PR, Z, _, _, _, _, congrArg Prod.snd (Option.some.inj (congrArg (fun l9 => l9[0]?) hw)), congrArg Prod.snd (Option.some.inj (congrArg (fun l9 => l9[1]?) hw)), congrArg Prod.snd (Option.some.inj (congrArg (fun l9 => l9[2]?) hw)), congrArg Prod.snd (Option.some.inj (congrArg (fun l9 => l9[3]?) hw)), (ho 484 (by decide)).trans q4, (ho 485 (by decide)).trans q5, (ho 486 (by decide)).trans q6, congrArg Prod.snd (Option.some.inj (congrArg (fun l9 => l9[4]?) hw)), hR⟩⟩, fun i9 h9 => ho i9 (by simp <;> omega)⟩

set_option maxHeartbeats 4000000 in
set_option maxRecDepth 100000 in
/-- thrown -/
theorem m_thrown (l : Launch) (D : va_G) (cI cJ cE cF cR : ClassId) (NP : Nat) (ad : Nat → Nat) (G : Nat → va_E) (V : Nat → Rat) (nn : Nat) (dn th : Int) (hM : mSt cI cJ ad G V nn dn th) (hNP : 488 ≤ NP)  (hth : iR th) : Ci l D (zty cI cJ cE cF cR) yX11_thrown wsX11_thrown (zRm 0 0) 0 0 [.ref (ad 480)] (pw NP ad G) (fun r w1 => ∃ G1 : Nat → va_E, w1 = pw NP ad G1 ∧ (r = th ∧ mSt cI cJ ad G1 (V) (nn) (dn) (th)) ∧ ∀ i9 : Nat, i9 < 480 ∨ 487 < i9 → G1 i9 = G i9) := by
  obtain ⟨F, Ln, Sg, T0, B0, PR, RS, sv, rk, tn, ms, q0, q1, q2, q3, q4, q5, q6, q7, hR⟩ := hM
  refine (Ci.frame (c_thrown l D cI cJ cE cF cR (ad 480) (ad 481) (ad 482) (ad 483) (ad 484) (ad 485) (ad 486) (ad 487) nn dn sv rk tn ms th  hth) [480] (by simp <;> omega) (by decide) (by simp only [List.map_cons, List.map_nil, q0]) (by rintro r u ⟨rfl, _⟩; rfl)).weak ?_
  rintro r u ⟨G1, rfl, ⟨hw, h1⟩, ho⟩
  exact ⟨G1, rfl, ⟨h1, ⟨F, Ln, Sg, T0, B0, PR, RS, _, _, _, _, congrArg Prod.snd (Option.some.inj (congrArg (fun l9 => l9[0]?) hw)), (ho 481 (by decide)).trans q1, (ho 482 (by decide)).trans q2, (ho 483 (by decide)).trans q3, (ho 484 (by decide)).trans q4, (ho 485 (by decide)).trans q5, (ho 486 (by decide)).trans q6, (ho 487 (by decide)).trans q7, hR⟩⟩, fun i9 h9 => ho i9 (by simp <;> omega)⟩
