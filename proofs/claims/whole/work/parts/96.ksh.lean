/-! the same objects, each number one more -/
section KSS
variable {cI cJ cE cF cR : ClassId} {ad ad' : Nat → Nat} {G G' : Nat → va_E} {k room : Nat}
def kS1 (ad : Nat → Nat) (G : Nat → va_E) (ad' : Nat → Nat) (G' : Nat → va_E) : Prop := ∀ i : Nat, ad' (i + 1) = ad i ∧ G' (i + 1) = G i
theorem kS1.a (h : kS1 ad G ad' G') (i : Nat) {j : Nat} (hj : j = i + 1) : ad' j = ad i := by rw [hj]; exact (h i).1
theorem kS1.g (h : kS1 ad G ad' G') (i : Nat) {j : Nat} (hj : j = i + 1) : G' j = G i := by rw [hj]; exact (h i).2
theorem pHas.sh (hs : kS1 ad G ad' G') {j : Nat} (hj : j = k + 1) (h : pHas cI ad G k room) : pHas cI ad' G' j room := by
  obtain ⟨c, g, e1, e2⟩ := h
  exact ⟨c, g, by rw [hs.g k hj, e1, hs.a (k + 1) (j := j + 1) (by omega)], by rw [hs.g (k + 1) (j := j + 1) (by omega), e2]⟩
theorem pWh.sh {v : Int} (hs : kS1 ad G ad' G') {j : Nat} (hj : j = k + 1) (h : pWh cI ad G k room v) : pWh cI ad' G' j room v := by
  obtain ⟨n, g, e1, e2, e3⟩ := h
  exact ⟨n, g, by rw [hs.g k hj, e1, hs.a (k + 1) (j := j + 1) (by omega)], by rw [hs.g (k + 1) (j := j + 1) (by omega), e2], e3⟩
theorem pEh.sh (hs : kS1 ad G ad' G') {j : Nat} (hj : j = k + 1) (h : pEh cI ad G k room) : pEh cI ad' G' j room := by
  obtain ⟨⟨s, e1⟩, e2⟩ := h
  exact ⟨⟨s, by rw [hs.g k hj, e1, hs.a (k + 1) (j := j + 1) (by omega)]⟩, e2.sh hs (by omega)⟩
theorem pEn.sh {z : Int} (hs : kS1 ad G ad' G') {j : Nat} (hj : j = k + 1) (h : pEn cI ad G k room z) : pEn cI ad' G' j room z := by
  obtain ⟨e1, e2⟩ := h
  exact ⟨by rw [hs.g k hj, e1, hs.a (k + 1) (j := j + 1) (by omega)], e2.sh hs (by omega)⟩
theorem pFh.sh (hs : kS1 ad G ad' G') {j : Nat} (hj : j = k + 1) (h : pFh cI ad G k room) : pFh cI ad' G' j room := by
  obtain ⟨⟨s, e1⟩, e2, e3⟩ := h
  exact ⟨⟨s, by rw [hs.g k hj, e1, hs.a (k + 1) (j := j + 1) (by omega), hs.a (k + 3) (j := j + 3) (by omega)]⟩, e2.sh hs (by omega), e3.sh hs (by omega)⟩
theorem kDv.sh (hs : kS1 ad G ad' G') {j : Nat} (hj : j = k + 1) (h : kDv cI ad G k) : kDv cI ad' G' j := by
  obtain ⟨e1, ⟨u, e2⟩, v, e3⟩ := h
  exact ⟨by rw [hs.g k hj, e1, hs.a (k + 1) (j := j + 1) (by omega), hs.a (k + 2) (j := j + 2) (by omega)], ⟨u, by rw [hs.g (k + 1) (j := j + 1) (by omega), e2]⟩, v, by rw [hs.g (k + 2) (j := j + 2) (by omega), e3]⟩
theorem kEu.sh {d d' : Nat} (hs : kS1 ad G ad' G') {j : Nat} (hj : j = k + 1) (hd : d' = d + 1) (h : kEu cI ad G d k) : kEu cI ad' G' d' j := by
  obtain ⟨⟨x1, x2, x3, x4, e1⟩, e2, e3, e4, e5⟩ := h
  exact ⟨⟨x1, x2, x3, x4, by rw [hs.g k hj, e1, hs.a d hd, hs.a (k + 1) (j := j + 1) (by omega), hs.a (k + 3) (j := j + 3) (by omega), hs.a (k + 5) (j := j + 5) (by omega), hs.a (k + 7) (j := j + 7) (by omega)]⟩, e2.sh hs (by omega), e3.sh hs (by omega), e4.sh hs (by omega), e5.sh hs (by omega)⟩
theorem kAr.sh (hs : kS1 ad G ad' G') {j : Nat} (hj : j = k + 1) (h : kAr cI ad G k) : kAr cI ad' G' j := by
  obtain ⟨e0, e1, e2, e3, e4, e5, e6, e7, e8, e9⟩ := h
  exact ⟨by rw [hs.g k hj, e0, hs.a (k + 1) (j := j + 1) (by omega), hs.a (k + 4) (j := j + 4) (by omega), hs.a (k + 13) (j := j + 13) (by omega), hs.a (k + 15) (j := j + 15) (by omega), hs.a (k + 17) (j := j + 17) (by omega), hs.a (k + 19) (j := j + 19) (by omega), hs.a (k + 21) (j := j + 21) (by omega), hs.a (k + 23) (j := j + 23) (by omega), hs.a (k + 25) (j := j + 25) (by omega)], e1.sh hs (by omega), e2.sh hs (by omega) (by omega), e3.sh hs (by omega), e4.sh hs (by omega), e5.sh hs (by omega), e6.sh hs (by omega), e7.sh hs (by omega), e8.sh hs (by omega), e9.sh hs (by omega)⟩
theorem kRf.sh {cX : ClassId} {N n base base' step : Nat} (hs : kS1 ad G ad' G') {j : Nat} (hj : j = k + 1) (hb : base' = base + 1) (h : kRf cX ad G k N n base step) : kRf cX ad' G' j N n base' step := by
  obtain ⟨f, e1, e2⟩ := h
  exact ⟨f, by rw [hs.g k hj, e1], fun i hi => by rw [e2 i hi, hs.a (base + step * i) (j := base' + step * i) (by omega)]⟩
theorem kRo.sh (hs : kS1 ad G ad' G') {j : Nat} (hj : j = k + 1) (h : kRo cI cE cF ad G k) : kRo cI cE cF ad' G' j := by
  obtain ⟨⟨pc, e0⟩, e1, e2, e3, e4⟩ := h
  exact ⟨⟨pc, by rw [hs.g k hj, e0, hs.a (k + 1) (j := j + 1) (by omega), hs.a (k + 2) (j := j + 2) (by omega), hs.a (k + 59) (j := j + 59) (by omega)]⟩, e1.sh hs (by omega) (by omega), e2.sh hs (by omega) (by omega), fun i hi => ⟨(e3 i hi).1.sh hs (by omega), (e3 i hi).2.sh hs (by omega)⟩, e4.sh hs (by omega)⟩
theorem kEl.sh (hs : kS1 ad G ad' G') {j : Nat} (hj : j = k + 1) (h : kEl cI cE cF cR ad G k) : kEl cI cE cF cR ad' G' j := by
  obtain ⟨⟨n0, tn, pv, ml, sv, e0⟩, e1, e2, e3, ⟨PR, e4⟩, e5, e6, e7, e8, e9, e10, e11, e12, e13⟩ := h
  exact ⟨⟨n0, tn, pv, ml, sv, by rw [hs.g k hj, e0, hs.a (k + 1) (j := j + 1) (by omega), hs.a (k + 28) (j := j + 28) (by omega), hs.a (k + 29) (j := j + 29) (by omega), hs.a (k + 30) (j := j + 30) (by omega), hs.a (k + 449) (j := j + 449) (by omega), hs.a (k + 454) (j := j + 454) (by omega), hs.a (k + 459) (j := j + 459) (by omega), hs.a (k + 461) (j := j + 461) (by omega), hs.a (k + 463) (j := j + 463) (by omega), hs.a (k + 465) (j := j + 465) (by omega), hs.a (k + 31) (j := j + 31) (by omega)]⟩,
    e1.sh hs (by omega), e2.sh hs (by omega) (by omega), e3.sh hs (by omega) (by omega), ⟨PR, by rw [hs.g (k + 30) (j := j + 30) (by omega), e4]⟩, e5.sh hs (by omega) (by omega), fun q hq => ⟨(e6 q hq).1.sh hs (by omega), (e6 q hq).2.sh hs (by omega)⟩, fun i hi => (e7 i hi).sh hs (by omega), e8.sh hs (by omega), e9.sh hs (by omega), e10.sh hs (by omega), e11.sh hs (by omega), e12.sh hs (by omega), e13.sh hs (by omega)⟩
theorem kEq.sh (hs : kS1 ad G ad' G') {j : Nat} (hj : j = k + 1) (h : kEq cJ ad G k) : kEq cJ ad' G' j := by
  obtain ⟨e0, a, b, e1, e2, e3⟩ := h
  exact ⟨by rw [hs.g k hj, e0, hs.a (k + 1) (j := j + 1) (by omega), hs.a (k + 2) (j := j + 2) (by omega)], a, b, by rw [hs.g (k + 1) (j := j + 1) (by omega), e1], by rw [hs.g (k + 2) (j := j + 2) (by omega), e2], e3⟩
theorem kRs.sh (hs : kS1 ad G ad' G') {j : Nat} (hj : j = k + 1) (h : kRs cI ad G k) : kRs cI ad' G' j := by
  obtain ⟨e0, Z, e1⟩ := h
  exact ⟨by rw [hs.g k hj, e0, hs.a (k + 1) (j := j + 1) (by omega)], Z, by rw [hs.g (k + 1) (j := j + 1) (by omega), e1]⟩
theorem kSo.sh (hs : kS1 ad G ad' G') {j : Nat} (hj : j = k + 1) (h : kSo cI cJ cE cF cR ad G k) : kSo cI cJ cE cF cR ad' G' j := by
  obtain ⟨e0, e1, e2, e3, e4⟩ := h
  exact ⟨by rw [hs.g k hj, e0, hs.a (k + 1) (j := j + 1) (by omega), hs.a (k + 4) (j := j + 4) (by omega), hs.a (k + 472) (j := j + 472) (by omega), hs.a (k + 474) (j := j + 474) (by omega)], e1.sh hs (by omega), e2.sh hs (by omega), e3.sh hs (by omega), e4.sh hs (by omega)⟩
theorem kMo.sh (hs : kS1 ad G ad' G') {j : Nat} (hj : j = k + 1) (h : kMo cI cJ ad G k) : kMo cI cJ ad' G' j := by
  obtain ⟨F, Ln, Sg, T0, B0, PR, RS, e0, e1, e2, e3, e4, e5, e6, e7, e8⟩ := h
  exact ⟨F, Ln, Sg, T0, B0, PR, RS, by rw [hs.g k hj, e0, hs.a (k + 1) (j := j + 1) (by omega), hs.a (k + 2) (j := j + 2) (by omega), hs.a (k + 3) (j := j + 3) (by omega), hs.a (k + 4) (j := j + 4) (by omega), hs.a (k + 5) (j := j + 5) (by omega), hs.a (k + 6) (j := j + 6) (by omega), hs.a (k + 7) (j := j + 7) (by omega)], by rw [hs.g (k + 1) (j := j + 1) (by omega), e1], by rw [hs.g (k + 2) (j := j + 2) (by omega), e2], by rw [hs.g (k + 3) (j := j + 3) (by omega), e3], by rw [hs.g (k + 4) (j := j + 4) (by omega), e4], by rw [hs.g (k + 5) (j := j + 5) (by omega), e5], by rw [hs.g (k + 6) (j := j + 6) (by omega), e6], by rw [hs.g (k + 7) (j := j + 7) (by omega), e7], e8⟩
theorem kMo.mv (h : kMo cI cJ ad G k) (ha : kAg k (k + 8) ad G ad' G') : kMo cI cJ ad' G' k := by
  obtain ⟨F, Ln, Sg, T0, B0, PR, RS, e0, e1, e2, e3, e4, e5, e6, e7, e8⟩ := h
  exact ⟨F, Ln, Sg, T0, B0, PR, RS, by rw [(ha k (by omega) (by omega)).2, e0, (ha (k + 1) (by omega) (by omega)).1, (ha (k + 2) (by omega) (by omega)).1, (ha (k + 3) (by omega) (by omega)).1, (ha (k + 4) (by omega) (by omega)).1, (ha (k + 5) (by omega) (by omega)).1, (ha (k + 6) (by omega) (by omega)).1, (ha (k + 7) (by omega) (by omega)).1], by rw [(ha (k + 1) (by omega) (by omega)).2, e1], by rw [(ha (k + 2) (by omega) (by omega)).2, e2], by rw [(ha (k + 3) (by omega) (by omega)).2, e3], by rw [(ha (k + 4) (by omega) (by omega)).2, e4], by rw [(ha (k + 5) (by omega) (by omega)).2, e5], by rw [(ha (k + 6) (by omega) (by omega)).2, e6], by rw [(ha (k + 7) (by omega) (by omega)).2, e7], e8⟩
theorem kSo.mv (h : kSo cI cJ cE cF cR ad G k) (ha : kAg k (k + 479) ad G ad' G') : kSo cI cJ cE cF cR ad' G' k := by
  obtain ⟨e0, e1, e2, e3, e4⟩ := h
  exact ⟨by rw [(ha k (by omega) (by omega)).2, e0, (ha (k + 1) (by omega) (by omega)).1, (ha (k + 4) (by omega) (by omega)).1, (ha (k + 472) (by omega) (by omega)).1, (ha (k + 474) (by omega) (by omega)).1], e1.mv (fun i a b => ha i (by omega) (by omega)), e2.mv (fun i a b => ha i (by omega) (by omega)), e3.mv (fun i a b => ha i (by omega) (by omega)), e4.mv (fun i a b => ha i (by omega) (by omega))⟩
end KSS
/-- the last cell of the pool first -/
theorem pw_rot (n : Nat) (ad : Nat → Nat) (G : Nat → va_E) : ∃ (ad' : Nat → Nat) (G' : Nat → va_E), kS1 ad G ad' G' ∧ ad' 0 = ad n ∧ G' 0 = G n ∧ (∀ (D : va_G) (H : Heap), va_P D vwCl (pw (n + 1) ad G) H → va_P D vwCl (pw (n + 1) ad' G') H) ∧ ∀ A : Nat → Prop, va_D A (pw (n + 1) ad G) → va_D A (pw (n + 1) ad' G') := by
  have hr : ∀ i : Nat, i < n + 1 → (if i = 0 then n else i - 1) < n + 1 := fun i hi => by split <;> omega
  refine ⟨fun i => ad (if i = 0 then n else i - 1), fun i => G (if i = 0 then n else i - 1), fun i => ⟨by simp, by simp⟩, by simp, by simp, fun D H hP => pw_P (fun k hk => hP _ _ (pw_get (hr k hk))), fun A hD => ⟨fun i j x y hi hj hxy => ?_, fun k q hk => ?_⟩⟩
  · obtain ⟨h1, rfl⟩ := pw_lt hi
    obtain ⟨h2, rfl⟩ := pw_lt hj
    have := hD.1 _ _ _ _ (pw_get (hr i h1)) (pw_get (hr j h2)) hxy
    split at this <;> split at this <;> omega
  · obtain ⟨h1, rfl⟩ := pw_lt hk
    exact hD.2 _ _ (pw_get (hr k h1))
/-- arrays of references count only within their length -/
theorem va_at_aR {D : va_G} {cl : List vw_C} {a n : Nat} {cA : ClassId} {f g : Nat → Option Nat} {H : Heap} (h : va_at D cl (a, aR cA n f) H) (hfg : ∀ j : Nat, j < n → f j = g j) : va_at D cl (a, aR cA n g) H := by
  have e : vp_cell cA (n, .inr (.inr (.inr (.inr f)))) = vp_cell cA (n, .inr (.inr (.inr (.inr g)))) := by
    rw [vp_cell_q, vp_cell_q]
    unfold arrV
    congr 1
    congr 1
    funext j
    show va_rf (f j.val) = va_rf (g j.val)
    rw [hfg j.val j.isLt]
  show H[a]? = some (vp_cell cA (n, .inr (.inr (.inr (.inr g)))))
  rw [← e]
  exact h
/-- the pool with its arrays of references as the class has them -/
def kCn (cE cF cR : ClassId) (ad : Nat → Nat) (G : Nat → va_E) : Nat → va_E := fun i =>
  if i = 33 then aR cR 6 (fun j => some (ad (37 + 66 * j))) else if i = 34 then aR cF 6 (fun j => some (ad (98 + 66 * j))) else if i = 36 then aR cE 7 (fun j => some (ad (433 + 3 * j)))
  else if i < 433 ∧ i % 66 = 38 then aR cE 7 (fun j => some (ad (i + 2 + 8 * j))) else if i < 433 ∧ i % 66 = 39 then aR cF 7 (fun j => some (ad (i + 4 + 8 * j))) else G i
section KCN
variable {cI cJ cE cF cR : ClassId} {ad : Nat → Nat} {G : Nat → va_E}
theorem kCn_o {i : Nat} (h1 : i ≠ 33) (h2 : i ≠ 34) (h3 : i ≠ 36) (h4 : ¬ (i < 433 ∧ i % 66 = 38)) (h5 : ¬ (i < 433 ∧ i % 66 = 39)) : kCn cE cF cR ad G i = G i := by
  unfold kCn
  rw [if_neg h1, if_neg h2, if_neg h3, if_neg h4, if_neg h5]
theorem kCn_P {D : va_G} {NP : Nat} {H : Heap} (h : kSo cI cJ cE cF cR ad G 1) (hP : va_P D vwCl (pw NP ad G) H) : va_P D vwCl (pw NP ad (kCn cE cF cR ad G)) H := by
  obtain ⟨-, -, ⟨-, -, ⟨f1, a1, b1⟩, ⟨f2, a2, b2⟩, -, ⟨f3, a3, b3⟩, hro, -⟩, -, -⟩ := h
  refine pw_P (fun k hk => ?_)
  have hk9 := hP k _ (pw_get hk)
  unfold kCn
  by_cases q1 : k = 33
  · rw [if_pos q1]; subst q1
    rw [show G 33 = aR cR 6 f1 from a1] at hk9
    exact va_at_aR hk9 (fun j hj => b1 j hj)
  rw [if_neg q1]
  by_cases q2 : k = 34
  · rw [if_pos q2]; subst q2
    rw [show G 34 = aR cF 6 f2 from a2] at hk9
    exact va_at_aR hk9 (fun j hj => b2 j hj)
  rw [if_neg q2]
  by_cases q3 : k = 36
  · rw [if_pos q3]; subst q3
    rw [show G 36 = aR cE 7 f3 from a3] at hk9
    exact va_at_aR hk9 (fun j hj => b3 j hj)
  rw [if_neg q3]
  by_cases q4 : k < 433 ∧ k % 66 = 38
  · rw [if_pos q4]
    obtain ⟨⟨-, ⟨f4, a4, b4⟩, -⟩, -⟩ := hro (k / 66) (by omega)
    have e4 : 1 + 4 + 32 + 66 * (k / 66) + 1 = k := by omega
    rw [e4] at a4
    rw [a4] at hk9
    refine va_at_aR hk9 (fun j hj => ?_)
    rw [b4 j hj, show 1 + 4 + 32 + 66 * (k / 66) + 3 + 8 * j = k + 2 + 8 * j by omega]
  rw [if_neg q4]
  by_cases q5 : k < 433 ∧ k % 66 = 39
  · rw [if_pos q5]
    obtain ⟨⟨-, -, ⟨f4, a4, b4⟩, -⟩, -⟩ := hro (k / 66) (by omega)
    have e4 : 1 + 4 + 32 + 66 * (k / 66) + 2 = k := by omega
    rw [e4] at a4
    rw [a4] at hk9
    refine va_at_aR hk9 (fun j hj => ?_)
    rw [b4 j hj, show 1 + 4 + 32 + 66 * (k / 66) + 6 + 8 * j = k + 4 + 8 * j by omega]
  rw [if_neg q5]
  exact hk9
end KCN
