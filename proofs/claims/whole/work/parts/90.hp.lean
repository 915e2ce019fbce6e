theorem pCs.at0 {cI cJ cE cF cR : ClassId} {NP : Nat} {ad : Nat → Nat} {G G' : Nat → va_E} {V : Nat → Rat} {n : Nat} {wd el : Int} (h : pCs cI cJ cE cF cR NP ad G V n wd el) (hk : ∀ i : Nat, i ≠ 0 → i < 480 → G' i = G i) : pCs cI cJ cE cF cR NP ad G' V n wd el := by
  obtain ⟨hso, ht, hQ9, ⟨hsh, hre, Z, hsq⟩, ρ, PR, ⟨hst9, hwk, hHb⟩, hrun⟩ := id h
  exact h.keep (hwk.keep (fun i hi => hk i (by omega) (by omega))) ⟨Z, (hk 474 (by omega) (by omega)).trans hsq⟩ (hsh.keep (fun i h1 h2 => hk i (by omega) (by omega))) (fun i hi => hk i (by omega) (by omega))

set_option maxHeartbeats 4000000 in
set_option maxRecDepth 100000 in
/-- the helper size -/
theorem h_size (l : Launch) (D : va_G) (cI cJ cE cF cR : ClassId) (hst : l.stackTraces = false) (NP : Nat) (ad : Nat → Nat) (G : Nat → va_E) (y1 : Int) (V : Nat → Rat) (n : Nat) (wd el : Int) (hC9 : pCs cI cJ cE cF cR NP ad G V n wd el) (hNP : 480 ≤ NP) (hy1 : iR y1) : Hi l D (zty cI cJ cE cF cR) yL_size wsL_size ({ frames := 7, cells := 1, slots := 6, locals := 111 } : Room) 1 6 [.ref (ad 1), .int (iZ (y1))] (pw NP ad G) (fun k9 w1 => ∃ G1 : Nat → va_E, w1 = pw NP ad G1 ∧ ((k9 = 0 ∧ ¬ (y1 < 1 ∨ 6 < y1) ∧ pCs cI cJ cE cF cR NP ad G1 (fun _ => 0) (y1.toNat) (0) (0)) ∨ (k9 = 1 ∧ (y1 < 1 ∨ 6 < y1) ∧ pCs cI cJ cE cF cR NP ad G1 (V) (n) (wd) (el))) ∧ G1 0 = G 0 ∧ ∀ i9 : Nat, 480 ≤ i9 → G1 i9 = G i9) := by
  unfold Hi
  refine zsH (Qc := zQi D _ _) (cc := cL_size) (maxL := 3) (ret := (some .int)) (hh := [(0, 5, 8, 13)]) (by decide) rfl (Nat.le_of_ble_eq_true rfl) ?_
  intro zp ze s zm below meth zc ls A args Q hQ hx hb hr hts hown hlk hml hnm hN hX9 hHC htab hA hK hP hD hS hl
  have q_classLink_RL_13_java_lang_IllegalArgumentException := hts (.classLink RL 13 "java/lang/IllegalArgumentException") (by decide +kernel)
  have hl : lv_has ls 3 [(0, .ref (ad 1)), (1, .int (iZ (y1)))] := hl
  refine lv_aload_n hx hb dL_size_0 rfl (lv_at hl 0 rfl) ?_
  refine lv_iload_n hx hb dL_size_1 rfl (lv_at hl 1 rfl) ?_
  refine zh_Vv (As := [.int (iZ (y1))]) (rest := []) ⟨hx, hb, hml, hown, hts⟩ (p_size l D cI cJ cE cF cR hst NP ad G y1 V n wd el hC9 hNP hy1) (cwV 1 hts gL_size_X10_size rfl rfl rfl (by decide +kernel) ⟨Nat.le_of_ble_eq_true rfl, Nat.le_of_ble_eq_true rfl⟩) hN hX9 hK hP hD hS hA (q0 := 1) (ci := 10) rfl rfl (pw_at (by omega) (hC9.1)) rfl hl.1 (Nat.le_of_ble_eq_true rfl) dL_size_2 ⟨by decide, by decide⟩ (fun E ce q9 H locs hpx hP hD hS hce hcv hcl => ?_) (fun w1 H locs hp hP hD hS => ?_)
  · rcases hpx with ⟨rfl, hc9⟩
    · refine zh_c1 (E := "java/lang/IllegalArgumentException") hown htab (by decide) (by decide) q_classLink_RL_13_java_lang_IllegalArgumentException hX9.2.2.2 (by decide) hce hcv hcl ?_
      refine lv_astore_n (lv' := [(2, .ref (q9)), (0, .ref (ad 1)), (1, .int (iZ (y1)))]) hx hb dL_size_8 rfl hl (by decide) rfl (fun ls hl => ?_)
      refine lv_iconst (v := iZ 1) hx hb dL_size_9 rfl ?_
      exact zr_iret hQ hx hb hr hlk dL_size_10 hK hP hD hS (by omega) (by omega) ⟨by omega, by omega⟩ (⟨G, rfl, Or.inr ⟨rfl, hc9, hC9⟩, rfl, fun _ _ => rfl⟩)
  · obtain ⟨Gm, rfl, hn1, hCm, hom⟩ := hp
    have hP : va_P D vwCl (pw NP ad Gm) H := hP
    have hD : va_D A (pw NP ad Gm) := hD
    refine lv_goto (tgt := 11) hx hb dL_size_5 (by decide) ?_
    refine lv_iconst (v := iZ 0) hx hb dL_size_11 rfl ?_
    exact zr_iret hQ hx hb hr hlk dL_size_12 hK hP hD hS (by omega) (by omega) ⟨by omega, by omega⟩ (⟨Gm, rfl, Or.inl ⟨rfl, hn1, hCm⟩, hom 0 (by omega), fun i9 h9 => hom i9 (by omega)⟩)

set_option maxHeartbeats 4000000 in
set_option maxRecDepth 100000 in
/-- the helper set -/
theorem h_set (l : Launch) (D : va_G) (cI cJ cE cF cR : ClassId) (hst : l.stackTraces = false) (NP : Nat) (ad : Nat → Nat) (G : Nat → va_E) (y1 y2 y3 y4 : Int) (V : Nat → Rat) (n : Nat) (wd el : Int) (hC9 : pCs cI cJ cE cF cR NP ad G V n wd el) (hNP : 480 ≤ NP) (hy1 : iR y1) (hy2 : iR y2) (hy3 : iR y3) (hy4 : iR y4) (o0 : Nat → Int) (ho0 : G 0 = aJ cJ 1 o0) : Hi l D (zty cI cJ cE cF cR) yL_set wsL_set ({ frames := 7, cells := 1, slots := 6, locals := 174 } : Room) 1 6 [.ref (ad 1), .int (iZ (y1)), .int (iZ (y2)), .int (iZ (y3)), .int (iZ (y4)), .ref (ad 0)] (pw NP ad G) (fun k9 w1 => ∃ G1 : Nat → va_E, w1 = pw NP ad G1 ∧ ((k9 = 0 ∧ ∃ z9 : Int, iR z9 ∧ ¬ (y1 < 0 ∨ (n : Int) ≤ y1 ∨ y2 < 0 ∨ (n : Int) ≤ y2) ∧ y4 ≠ 0 ∧ z9 = ((mta (zu V (7 * y1.toNat + y2.toNat) (mkRat (if y4 < 0 then -y3 else y3) y4.natAbs)) n n : Nat) : Int) ∧ pCs cI cJ cE cF cR NP ad G1 (zu V (7 * y1.toNat + y2.toNat) (mkRat (if y4 < 0 then -y3 else y3) y4.natAbs)) (n) (0) (0) ∧ ∃ o1 : Nat → Int, G1 0 = aJ cJ 1 o1 ∧ o1 0 = z9) ∨ (k9 = 1 ∧ (y1 < 0 ∨ (n : Int) ≤ y1 ∨ y2 < 0 ∨ (n : Int) ≤ y2) ∧ pCs cI cJ cE cF cR NP ad G1 (V) (n) (wd) (el) ∧ ∃ o1 : Nat → Int, G1 0 = aJ cJ 1 o1) ∨ (k9 = 2 ∧ (¬ (y1 < 0 ∨ (n : Int) ≤ y1 ∨ y2 < 0 ∨ (n : Int) ≤ y2) ∧ y4 = 0) ∧ pCs cI cJ cE cF cR NP ad G1 (V) (n) (wd) (el) ∧ ∃ o1 : Nat → Int, G1 0 = aJ cJ 1 o1)) ∧ ∀ i9 : Nat, 480 ≤ i9 → G1 i9 = G i9) := by
  unfold Hi
  refine zsH (Qc := zQi D _ _) (cc := cL_set) (maxL := 7) (ret := (some .int)) (hh := [(0, 14, 17, 19), (0, 14, 21, 13)]) (by decide) rfl (Nat.le_of_ble_eq_true rfl) ?_
  intro zp ze s zm below meth zc ls A args Q hQ hx hb hr hts hown hlk hml hnm hN hX9 hHC htab hA hK hP hD hS hl
  have q_classLink_RL_19_java_lang_IndexOutOfBoundsExceptio := hts (.classLink RL 19 "java/lang/IndexOutOfBoundsException") (by decide +kernel)
  have q_classLink_RL_13_java_lang_IllegalArgumentException := hts (.classLink RL 13 "java/lang/IllegalArgumentException") (by decide +kernel)
  have hl : lv_has ls 7 [(0, .ref (ad 1)), (1, .int (iZ (y1))), (2, .int (iZ (y2))), (3, .int (iZ (y3))), (4, .int (iZ (y4))), (5, .ref (ad 0))] := hl
  refine lv_aload hx hb dL_set_0 (lv_at hl 5 rfl) ?_
  refine lv_iconst (v := iZ 0) hx hb dL_set_2 rfl ?_
  refine lv_aload_n hx hb dL_set_3 rfl (lv_at hl 0 rfl) ?_
  refine lv_iload_n hx hb dL_set_4 rfl (lv_at hl 1 rfl) ?_
  refine lv_iload_n hx hb dL_set_5 rfl (lv_at hl 2 rfl) ?_
  refine lv_iload_n hx hb dL_set_6 rfl (lv_at hl 3 rfl) ?_
  refine lv_iload hx hb dL_set_7 (lv_at hl 4 rfl) ?_
  refine zh_Vi (As := [.int (iZ (y1)), .int (iZ (y2)), .int (iZ (y3)), .int (iZ (y4))]) (rest := [.int (iZ (0)), .ref (ad 0)]) ⟨hx, hb, hml, hown, hts⟩ (p_set l D cI cJ cE cF cR hst NP ad G y1 y2 y3 y4 V n wd el hC9 hNP hy1 hy2 hy3 hy4) (cwV 4 hts gL_set_X10_set rfl rfl rfl (by decide +kernel) ⟨Nat.le_of_ble_eq_true rfl, Nat.le_of_ble_eq_true rfl⟩) hN hX9 hK hP hD hS hA (q0 := 1) (ci := 10) rfl rfl (pw_at (by omega) (hC9.1)) rfl hl.1 (Nat.le_of_ble_eq_true rfl) dL_set_9 ⟨by decide, by decide⟩ (fun E ce q9 H locs hpx hP hD hS hce hcv hcl => ?_) (fun z9 w1 H locs hz9 hp hP hD hS => ?_)
  · rcases hpx with ⟨rfl, hc9⟩ | ⟨rfl, hc9⟩
    · refine zh_c1 (E := "java/lang/IndexOutOfBoundsException") hown htab (by decide) (by decide) q_classLink_RL_19_java_lang_IndexOutOfBoundsExceptio hX9.2.2.2 (by decide) hce hcv hcl ?_
      refine lv_astore (lv' := [(6, .ref (q9)), (0, .ref (ad 1)), (1, .int (iZ (y1))), (2, .int (iZ (y2))), (3, .int (iZ (y3))), (4, .int (iZ (y4))), (5, .ref (ad 0))]) hx hb dL_set_17 hl (by decide) rfl (fun ls hl => ?_)
      refine lv_iconst (v := iZ 1) hx hb dL_set_19 rfl ?_
      exact zr_iret hQ hx hb hr hlk dL_set_20 hK hP hD hS (by omega) (by omega) ⟨by omega, by omega⟩ (⟨G, rfl, Or.inr (Or.inl (⟨rfl, hc9, hC9, o0, ho0⟩)), fun _ _ => rfl⟩)
    · refine zh_c2 (E := "java/lang/IllegalArgumentException") (N1 := "java/lang/IndexOutOfBoundsException") hown htab (by decide) q_classLink_RL_19_java_lang_IndexOutOfBoundsExceptio hHC.1 (by decide) (by decide) q_classLink_RL_13_java_lang_IllegalArgumentException hX9.2.2.2 (by decide) hce hcv hcl ?_
      refine lv_astore (lv' := [(6, .ref (q9)), (0, .ref (ad 1)), (1, .int (iZ (y1))), (2, .int (iZ (y2))), (3, .int (iZ (y3))), (4, .int (iZ (y4))), (5, .ref (ad 0))]) hx hb dL_set_21 hl (by decide) rfl (fun ls hl => ?_)
      refine lv_iconst (v := iZ 2) hx hb dL_set_23 rfl ?_
      exact zr_iret hQ hx hb hr hlk dL_set_24 hK hP hD hS (by omega) (by omega) ⟨by omega, by omega⟩ (⟨G, rfl, Or.inr (Or.inr (⟨rfl, hc9, hC9, o0, ho0⟩)), fun _ _ => rfl⟩)
  · obtain ⟨Gm, rfl, hn1, hn2, hn3, hCm, hom⟩ := hp
    have k9_1 : Gm (0) = aJ cJ (1) (o0) := (hom (0) (by omega)).trans (ho0)
    have hP : va_P D vwCl (pw NP ad Gm) H := hP
    have hD : va_D A (pw NP ad Gm) := hD
    refine zr_i2l hx hb hz9 dL_set_12 ?_
    refine zr_last hx hb hK hP hD hS (0) 1 (pw_at (by omega) (k9_1)) rfl (0) (by omega) (by omega) (by omega) dL_set_13 (fun H locs hP hD hS => ?_)
    rw [pw_set] at hP hD
    obtain ⟨G_13, hg13⟩ : ∃ g : Nat → va_E, g = zu Gm (0) (aJ cJ (1) (zu (o0) (0) (z9))) := ⟨_, rfl⟩
    have hP : va_P D vwCl (pw NP ad G_13) H := by rw [hg13]; exact hP
    have hD : va_D A (pw NP ad G_13) := by rw [hg13]; exact hD
    have ho13 : ∀ i8 : Nat, i8 ≠ 0 → G_13 i8 = Gm i8 := fun i8 hk => by rw [hg13]; exact zu_n _ _ hk
    have he13 : G_13 (0) = aJ cJ (1) (zu (o0) (0) (z9)) := by rw [hg13]; exact zu_s _ _ _
    refine lv_goto (tgt := 25) hx hb dL_set_14 (by decide) ?_
    refine lv_iconst (v := iZ 0) hx hb dL_set_25 rfl ?_
    exact zr_iret hQ hx hb hr hlk dL_set_26 hK hP hD hS (by omega) (by omega) ⟨by omega, by omega⟩ (⟨G_13, rfl, Or.inl ⟨rfl, z9, hz9, hn1, hn2, hn3, hCm.at0 (fun i h1 _ => ho13 i h1), _, he13, zu_s _ _ _⟩, fun i9 h9 => (ho13 i9 (by omega)).trans (hom i9 (by omega))⟩)

set_option maxHeartbeats 4000000 in
set_option maxRecDepth 100000 in
/-- the helper right -/
theorem h_right (l : Launch) (D : va_G) (cI cJ cE cF cR : ClassId) (hst : l.stackTraces = false) (NP : Nat) (ad : Nat → Nat) (G : Nat → va_E) (y1 y3 y4 : Int) (V : Nat → Rat) (n : Nat) (wd el : Int) (hC9 : pCs cI cJ cE cF cR NP ad G V n wd el) (hNP : 480 ≤ NP) (hy1 : iR y1) (hy3 : iR y3) (hy4 : iR y4) (o0 : Nat → Int) (ho0 : G 0 = aJ cJ 1 o0) : Hi l D (zty cI cJ cE cF cR) yL_right wsL_right ({ frames := 7, cells := 1, slots := 6, locals := 173 } : Room) 1 6 [.ref (ad 1), .int (iZ (y1)), .int (iZ (y3)), .int (iZ (y4)), .ref (ad 0)] (pw NP ad G) (fun k9 w1 => ∃ G1 : Nat → va_E, w1 = pw NP ad G1 ∧ ((k9 = 0 ∧ ∃ z9 : Int, iR z9 ∧ ¬ (y1 < 0 ∨ (n : Int) ≤ y1) ∧ y4 ≠ 0 ∧ z9 = ((mta (zu V (7 * y1.toNat + n) (mkRat (if y4 < 0 then -y3 else y3) y4.natAbs)) n n : Nat) : Int) ∧ pCs cI cJ cE cF cR NP ad G1 (zu V (7 * y1.toNat + n) (mkRat (if y4 < 0 then -y3 else y3) y4.natAbs)) (n) (0) (0) ∧ ∃ o1 : Nat → Int, G1 0 = aJ cJ 1 o1 ∧ o1 0 = z9) ∨ (k9 = 1 ∧ (y1 < 0 ∨ (n : Int) ≤ y1) ∧ pCs cI cJ cE cF cR NP ad G1 (V) (n) (wd) (el) ∧ ∃ o1 : Nat → Int, G1 0 = aJ cJ 1 o1) ∨ (k9 = 2 ∧ (¬ (y1 < 0 ∨ (n : Int) ≤ y1) ∧ y4 = 0) ∧ pCs cI cJ cE cF cR NP ad G1 (V) (n) (wd) (el) ∧ ∃ o1 : Nat → Int, G1 0 = aJ cJ 1 o1)) ∧ ∀ i9 : Nat, 480 ≤ i9 → G1 i9 = G i9) := by
  unfold Hi
  refine zsH (Qc := zQi D _ _) (cc := cL_right) (maxL := 6) (ret := (some .int)) (hh := [(0, 12, 15, 19), (0, 12, 19, 13)]) (by decide) rfl (Nat.le_of_ble_eq_true rfl) ?_
  intro zp ze s zm below meth zc ls A args Q hQ hx hb hr hts hown hlk hml hnm hN hX9 hHC htab hA hK hP hD hS hl
  have q_classLink_RL_19_java_lang_IndexOutOfBoundsExceptio := hts (.classLink RL 19 "java/lang/IndexOutOfBoundsException") (by decide +kernel)
  have q_classLink_RL_13_java_lang_IllegalArgumentException := hts (.classLink RL 13 "java/lang/IllegalArgumentException") (by decide +kernel)
  have hl : lv_has ls 6 [(0, .ref (ad 1)), (1, .int (iZ (y1))), (2, .int (iZ (y3))), (3, .int (iZ (y4))), (4, .ref (ad 0))] := hl
  refine lv_aload hx hb dL_right_0 (lv_at hl 4 rfl) ?_
  refine lv_iconst (v := iZ 0) hx hb dL_right_2 rfl ?_
  refine lv_aload_n hx hb dL_right_3 rfl (lv_at hl 0 rfl) ?_
  refine lv_iload_n hx hb dL_right_4 rfl (lv_at hl 1 rfl) ?_
  refine lv_iload_n hx hb dL_right_5 rfl (lv_at hl 2 rfl) ?_
  refine lv_iload_n hx hb dL_right_6 rfl (lv_at hl 3 rfl) ?_
  refine zh_Vi (As := [.int (iZ (y1)), .int (iZ (y3)), .int (iZ (y4))]) (rest := [.int (iZ (0)), .ref (ad 0)]) ⟨hx, hb, hml, hown, hts⟩ (p_right l D cI cJ cE cF cR hst NP ad G y1 y3 y4 V n wd el hC9 hNP hy1 hy3 hy4) (cwV 3 hts gL_right_X10_right rfl rfl rfl (by decide +kernel) ⟨Nat.le_of_ble_eq_true rfl, Nat.le_of_ble_eq_true rfl⟩) hN hX9 hK hP hD hS hA (q0 := 1) (ci := 10) rfl rfl (pw_at (by omega) (hC9.1)) rfl hl.1 (Nat.le_of_ble_eq_true rfl) dL_right_7 ⟨by decide, by decide⟩ (fun E ce q9 H locs hpx hP hD hS hce hcv hcl => ?_) (fun z9 w1 H locs hz9 hp hP hD hS => ?_)
  · rcases hpx with ⟨rfl, hc9⟩ | ⟨rfl, hc9⟩
    · refine zh_c1 (E := "java/lang/IndexOutOfBoundsException") hown htab (by decide) (by decide) q_classLink_RL_19_java_lang_IndexOutOfBoundsExceptio hX9.2.2.2 (by decide) hce hcv hcl ?_
      refine lv_astore (lv' := [(5, .ref (q9)), (0, .ref (ad 1)), (1, .int (iZ (y1))), (2, .int (iZ (y3))), (3, .int (iZ (y4))), (4, .ref (ad 0))]) hx hb dL_right_15 hl (by decide) rfl (fun ls hl => ?_)
      refine lv_iconst (v := iZ 1) hx hb dL_right_17 rfl ?_
      exact zr_iret hQ hx hb hr hlk dL_right_18 hK hP hD hS (by omega) (by omega) ⟨by omega, by omega⟩ (⟨G, rfl, Or.inr (Or.inl (⟨rfl, hc9, hC9, o0, ho0⟩)), fun _ _ => rfl⟩)
    · refine zh_c2 (E := "java/lang/IllegalArgumentException") (N1 := "java/lang/IndexOutOfBoundsException") hown htab (by decide) q_classLink_RL_19_java_lang_IndexOutOfBoundsExceptio hHC.1 (by decide) (by decide) q_classLink_RL_13_java_lang_IllegalArgumentException hX9.2.2.2 (by decide) hce hcv hcl ?_
      refine lv_astore (lv' := [(5, .ref (q9)), (0, .ref (ad 1)), (1, .int (iZ (y1))), (2, .int (iZ (y3))), (3, .int (iZ (y4))), (4, .ref (ad 0))]) hx hb dL_right_19 hl (by decide) rfl (fun ls hl => ?_)
      refine lv_iconst (v := iZ 2) hx hb dL_right_21 rfl ?_
      exact zr_iret hQ hx hb hr hlk dL_right_22 hK hP hD hS (by omega) (by omega) ⟨by omega, by omega⟩ (⟨G, rfl, Or.inr (Or.inr (⟨rfl, hc9, hC9, o0, ho0⟩)), fun _ _ => rfl⟩)
  · obtain ⟨Gm, rfl, hn1, hn2, hn3, hCm, hom⟩ := hp
    have k7_1 : Gm (0) = aJ cJ (1) (o0) := (hom (0) (by omega)).trans (ho0)
    have hP : va_P D vwCl (pw NP ad Gm) H := hP
    have hD : va_D A (pw NP ad Gm) := hD
    refine zr_i2l hx hb hz9 dL_right_10 ?_
    refine zr_last hx hb hK hP hD hS (0) 1 (pw_at (by omega) (k7_1)) rfl (0) (by omega) (by omega) (by omega) dL_right_11 (fun H locs hP hD hS => ?_)
    rw [pw_set] at hP hD
    obtain ⟨G_11, hg11⟩ : ∃ g : Nat → va_E, g = zu Gm (0) (aJ cJ (1) (zu (o0) (0) (z9))) := ⟨_, rfl⟩
    have hP : va_P D vwCl (pw NP ad G_11) H := by rw [hg11]; exact hP
    have hD : va_D A (pw NP ad G_11) := by rw [hg11]; exact hD
    have ho11 : ∀ i8 : Nat, i8 ≠ 0 → G_11 i8 = Gm i8 := fun i8 hk => by rw [hg11]; exact zu_n _ _ hk
    have he11 : G_11 (0) = aJ cJ (1) (zu (o0) (0) (z9)) := by rw [hg11]; exact zu_s _ _ _
    refine lv_goto (tgt := 23) hx hb dL_right_12 (by decide) ?_
    refine lv_iconst (v := iZ 0) hx hb dL_right_23 rfl ?_
    exact zr_iret hQ hx hb hr hlk dL_right_24 hK hP hD hS (by omega) (by omega) ⟨by omega, by omega⟩ (⟨G_11, rfl, Or.inl ⟨rfl, z9, hz9, hn1, hn2, hn3, hCm.at0 (fun i h1 _ => ho11 i h1), _, he11, zu_s _ _ _⟩, fun i9 h9 => (ho11 i9 (by omega)).trans (hom i9 (by omega))⟩)

set_option maxHeartbeats 4000000 in
set_option maxRecDepth 100000 in
/-- the helper eliminate -/
theorem h_eliminate (l : Launch) (D : va_G) (cI cJ cE cF cR : ClassId) (hst : l.stackTraces = false) (NP : Nat) (ad : Nat → Nat) (G : Nat → va_E) (y1 : Int) (V : Nat → Rat) (n : Nat) (wd el : Int) (hC9 : pCs cI cJ cE cF cR NP ad G V n wd el) (hNP : 480 ≤ NP) (hy1 : iR y1) (o0 : Nat → Int) (ho0 : G 0 = aJ cJ 1 o0) : Hi l D (zty cI cJ cE cF cR) yL_eliminate wsL_eliminate ({ frames := 9, cells := 1, slots := 6, locals := 281 } : Room) 1 6 [.ref (ad 1), .int (iZ (y1)), .ref (ad 0)] (pw NP ad G) (fun k9 w1 => ∃ G1 : Nat → va_E, w1 = pw NP ad G1 ∧ ((k9 = 0 ∧ ∃ z9 : Int, ¬ (y1 < 0 ∨ 40000 < y1) ∧ ((((peH (pe V n n) : Nat) : Int) ≤ y1 ∧ z9 = ((peR (pe V n n) : Nat) : Int) ∧ ∃ wd1 : Int, pCs cI cJ cE cF cR NP ad G1 (V) (n) (wd1) (1)) ∨ (y1 < ((peH (pe V n n) : Nat) : Int) ∧ z9 = -1 ∧ ∃ wd1 : Int, pCs cI cJ cE cF cR NP ad G1 (V) (n) (wd1) (0))) ∧ ∃ o1 : Nat → Int, G1 0 = aJ cJ 1 o1 ∧ o1 0 = z9) ∨ (k9 = 1 ∧ (y1 < 0 ∨ 40000 < y1) ∧ pCs cI cJ cE cF cR NP ad G1 (V) (n) (wd) (el) ∧ ∃ o1 : Nat → Int, G1 0 = aJ cJ 1 o1)) ∧ ∀ i9 : Nat, 480 ≤ i9 → G1 i9 = G i9) := by
  unfold Hi
  refine zsH (Qc := zQi D _ _) (cc := cL_eliminate) (maxL := 4) (ret := (some .int)) (hh := [(0, 9, 12, 13)]) (by decide) rfl (Nat.le_of_ble_eq_true rfl) ?_
  intro zp ze s zm below meth zc ls A args Q hQ hx hb hr hts hown hlk hml hnm hN hX9 hHC htab hA hK hP hD hS hl
  have q_classLink_RL_13_java_lang_IllegalArgumentException := hts (.classLink RL 13 "java/lang/IllegalArgumentException") (by decide +kernel)
  have hl : lv_has ls 4 [(0, .ref (ad 1)), (1, .int (iZ (y1))), (2, .ref (ad 0))] := hl
  refine lv_aload_n hx hb dL_eliminate_0 rfl (lv_at hl 2 rfl) ?_
  refine lv_iconst (v := iZ 0) hx hb dL_eliminate_1 rfl ?_
  refine lv_aload_n hx hb dL_eliminate_2 rfl (lv_at hl 0 rfl) ?_
  refine lv_iload_n hx hb dL_eliminate_3 rfl (lv_at hl 1 rfl) ?_
  refine zh_Vi (As := [.int (iZ (y1))]) (rest := [.int (iZ (0)), .ref (ad 0)]) ⟨hx, hb, hml, hown, hts⟩ (p_eliminate l D cI cJ cE cF cR hst NP ad G y1 V n wd el hC9 hNP hy1) (cwV 1 hts gL_eliminate_X10_eliminate rfl rfl rfl (by decide +kernel) ⟨Nat.le_of_ble_eq_true rfl, Nat.le_of_ble_eq_true rfl⟩) hN hX9 hK hP hD hS hA (q0 := 1) (ci := 10) rfl rfl (pw_at (by omega) (hC9.1)) rfl hl.1 (Nat.le_of_ble_eq_true rfl) dL_eliminate_4 ⟨by decide, by decide⟩ (fun E ce q9 H locs hpx hP hD hS hce hcv hcl => ?_) (fun z9 w1 H locs hz9 hp hP hD hS => ?_)
  · rcases hpx with ⟨rfl, hc9⟩
    · refine zh_c1 (E := "java/lang/IllegalArgumentException") hown htab (by decide) (by decide) q_classLink_RL_13_java_lang_IllegalArgumentException hX9.2.2.2 (by decide) hce hcv hcl ?_
      refine lv_astore_n (lv' := [(3, .ref (q9)), (0, .ref (ad 1)), (1, .int (iZ (y1))), (2, .ref (ad 0))]) hx hb dL_eliminate_12 rfl hl (by decide) rfl (fun ls hl => ?_)
      refine lv_iconst (v := iZ 1) hx hb dL_eliminate_13 rfl ?_
      exact zr_iret hQ hx hb hr hlk dL_eliminate_14 hK hP hD hS (by omega) (by omega) ⟨by omega, by omega⟩ (⟨G, rfl, Or.inr (⟨rfl, hc9, hC9, o0, ho0⟩), fun _ _ => rfl⟩)
  · obtain ⟨Gm, rfl, hn1, hn2, hom⟩ := hp
    have k4_1 : Gm (0) = aJ cJ (1) (o0) := (hom (0) (by omega)).trans (ho0)
    have hP : va_P D vwCl (pw NP ad Gm) H := hP
    have hD : va_D A (pw NP ad Gm) := hD
    refine zr_i2l hx hb hz9 dL_eliminate_7 ?_
    refine zr_last hx hb hK hP hD hS (0) 1 (pw_at (by omega) (k4_1)) rfl (0) (by omega) (by omega) (by omega) dL_eliminate_8 (fun H locs hP hD hS => ?_)
    rw [pw_set] at hP hD
    obtain ⟨G_8, hg8⟩ : ∃ g : Nat → va_E, g = zu Gm (0) (aJ cJ (1) (zu (o0) (0) (z9))) := ⟨_, rfl⟩
    have hP : va_P D vwCl (pw NP ad G_8) H := by rw [hg8]; exact hP
    have hD : va_D A (pw NP ad G_8) := by rw [hg8]; exact hD
    have ho8 : ∀ i8 : Nat, i8 ≠ 0 → G_8 i8 = Gm i8 := fun i8 hk => by rw [hg8]; exact zu_n _ _ hk
    have he8 : G_8 (0) = aJ cJ (1) (zu (o0) (0) (z9)) := by rw [hg8]; exact zu_s _ _ _
    refine lv_goto (tgt := 15) hx hb dL_eliminate_9 (by decide) ?_
    refine lv_iconst (v := iZ 0) hx hb dL_eliminate_15 rfl ?_
    exact zr_iret hQ hx hb hr hlk dL_eliminate_16 hK hP hD hS (by omega) (by omega) ⟨by omega, by omega⟩ (⟨G_8, rfl, Or.inl ⟨rfl, z9, hn1, (by rcases hn2 with ⟨a1, a2, wd1, a3⟩ | ⟨a1, a2, wd1, a3⟩; exact Or.inl ⟨a1, a2, wd1, a3.at0 (fun i h1 _ => ho8 i h1)⟩; exact Or.inr ⟨a1, a2, wd1, a3.at0 (fun i h1 _ => ho8 i h1)⟩), _, he8, zu_s _ _ _⟩, fun i9 h9 => (ho8 i9 (by omega)).trans (hom i9 (by omega))⟩)

set_option maxHeartbeats 4000000 in
set_option maxRecDepth 100000 in
/-- the helper isSolvable -/
theorem h_isSolvable (l : Launch) (D : va_G) (cI cJ cE cF cR : ClassId) (hst : l.stackTraces = false) (NP : Nat) (ad : Nat → Nat) (G : Nat → va_E) (V : Nat → Rat) (n : Nat) (wd el : Int) (hC9 : pCs cI cJ cE cF cR NP ad G V n wd el) (hNP : 480 ≤ NP) (o0 : Nat → Int) (ho0 : G 0 = aJ cJ 1 o0) : Hi l D (zty cI cJ cE cF cR) yL_isSolvable wsL_isSolvable ({ frames := 7, cells := 1, slots := 6, locals := 110 } : Room) 1 6 [.ref (ad 1), .ref (ad 0)] (pw NP ad G) (fun k9 w1 => ∃ G1 : Nat → va_E, w1 = pw NP ad G1 ∧ ((k9 = 0 ∧ ∃ z9 : Int, iR z9 ∧ el = 1 ∧ z9 = pe_svk (peM (pe V n n)) n (peR (pe V n n)) (n - peR (pe V n n)) ∧ pCs cI cJ cE cF cR NP ad G1 (V) (n) (wd) (el) ∧ ∃ o1 : Nat → Int, G1 0 = aJ cJ 1 o1 ∧ o1 0 = z9) ∨ (k9 = 1 ∧ (el = 0) ∧ pCs cI cJ cE cF cR NP ad G1 (V) (n) (wd) (el) ∧ ∃ o1 : Nat → Int, G1 0 = aJ cJ 1 o1)) ∧ ∀ i9 : Nat, 480 ≤ i9 → G1 i9 = G i9) := by
  unfold Hi
  refine zsH (Qc := zQi D _ _) (cc := cL_isSolvable) (maxL := 3) (ret := (some .int)) (hh := [(0, 15, 18, 33)]) (by decide) rfl (Nat.le_of_ble_eq_true rfl) ?_
  intro zp ze s zm below meth zc ls A args Q hQ hx hb hr hts hown hlk hml hnm hN hX9 hHC htab hA hK hP hD hS hl
  have q_classLink_RL_33_java_lang_IllegalStateException := hts (.classLink RL 33 "java/lang/IllegalStateException") (by decide +kernel)
  have hl : lv_has ls 3 [(0, .ref (ad 1)), (1, .ref (ad 0))] := hl
  refine lv_aload_n hx hb dL_isSolvable_0 rfl (lv_at hl 1 rfl) ?_
  refine lv_iconst (v := iZ 0) hx hb dL_isSolvable_1 rfl ?_
  refine lv_aload_n hx hb dL_isSolvable_2 rfl (lv_at hl 0 rfl) ?_
  refine zh_Vi (As := []) (rest := [.int (iZ (0)), .ref (ad 0)]) ⟨hx, hb, hml, hown, hts⟩ (p_isSolvable l D cI cJ cE cF cR hst NP ad G  V n wd el hC9 hNP ) (cwV 0 hts gL_isSolvable_X10_isSolvable rfl rfl rfl (by decide +kernel) ⟨Nat.le_of_ble_eq_true rfl, Nat.le_of_ble_eq_true rfl⟩) hN hX9 hK hP hD hS hA (q0 := 1) (ci := 10) rfl rfl (pw_at (by omega) (hC9.1)) rfl hl.1 (Nat.le_of_ble_eq_true rfl) dL_isSolvable_3 ⟨by decide, by decide⟩ (fun E ce q9 H locs hpx hP hD hS hce hcv hcl => ?_) (fun z9 w1 H locs hz9 hp hP hD hS => ?_)
  · rcases hpx with ⟨rfl, hc9⟩
    · refine zh_c1 (E := "java/lang/IllegalStateException") hown htab (by decide) (by decide) q_classLink_RL_33_java_lang_IllegalStateException hX9.2.2.2 (by decide) hce hcv hcl ?_
      refine lv_astore_n (lv' := [(2, .ref (q9)), (0, .ref (ad 1)), (1, .ref (ad 0))]) hx hb dL_isSolvable_18 rfl hl (by decide) rfl (fun ls hl => ?_)
      refine lv_iconst (v := iZ 1) hx hb dL_isSolvable_19 rfl ?_
      exact zr_iret hQ hx hb hr hlk dL_isSolvable_20 hK hP hD hS (by omega) (by omega) ⟨by omega, by omega⟩ (⟨G, rfl, Or.inr (⟨rfl, hc9, hC9, o0, ho0⟩), fun _ _ => rfl⟩)
  · obtain ⟨Gm, rfl, hn1, hn2, hom⟩ := hp
    have hCm : pCs cI cJ cE cF cR NP ad Gm (V) (n) (wd) (el) := hC9.at0 (fun i _ _ => hom i)
    have hz01 : z9 = 0 ∨ z9 = 1 := by rw [hn2]; exact pe_svk01 _ _ _ _
    have k3_1 : Gm (0) = aJ cJ (1) (o0) := (hom (0)).trans (ho0)
    have hP : va_P D vwCl (pw NP ad Gm) H := hP
    have hD : va_D A (pw NP ad Gm) := hD
    refine zr_if_eq hx hb 13 hz9 dL_isSolvable_6 (by decide) (fun h_6 => ?_) (fun h_6 => ?_)
    · refine lv_lconst (v := lZ 0) hx hb dL_isSolvable_13 rfl ?_
      refine zr_last hx hb hK hP hD hS (0) 1 (pw_at (by omega) (k3_1)) rfl (0) (by omega) (by omega) (by omega) dL_isSolvable_14 (fun H locs hP hD hS => ?_)
      rw [pw_set] at hP hD
      obtain ⟨G_14, hg14⟩ : ∃ g : Nat → va_E, g = zu Gm (0) (aJ cJ (1) (zu (o0) (0) (0))) := ⟨_, rfl⟩
      have hP : va_P D vwCl (pw NP ad G_14) H := by rw [hg14]; exact hP
      have hD : va_D A (pw NP ad G_14) := by rw [hg14]; exact hD
      have ho14 : ∀ i8 : Nat, i8 ≠ 0 → G_14 i8 = Gm i8 := fun i8 hk => by rw [hg14]; exact zu_n _ _ hk
      have he14 : G_14 (0) = aJ cJ (1) (zu (o0) (0) (0)) := by rw [hg14]; exact zu_s _ _ _
      refine lv_goto (tgt := 21) hx hb dL_isSolvable_15 (by decide) ?_
      refine lv_iconst (v := iZ 0) hx hb dL_isSolvable_21 rfl ?_
      exact zr_iret hQ hx hb hr hlk dL_isSolvable_22 hK hP hD hS (by omega) (by omega) ⟨by omega, by omega⟩ (⟨G_14, rfl, Or.inl ⟨rfl, z9, hz9, hn1, hn2, hCm.at0 (fun i h1 _ => ho14 i h1), _, he14, (zu_s _ _ _).trans (by omega)⟩, fun i9 h9 => (ho14 i9 (by omega)).trans (hom i9)⟩)
    · refine lv_lconst (v := lZ 1) hx hb dL_isSolvable_9 rfl ?_
      refine lv_goto (tgt := 14) hx hb dL_isSolvable_10 (by decide) ?_
      refine zr_last hx hb hK hP hD hS (0) 1 (pw_at (by omega) (k3_1)) rfl (0) (by omega) (by omega) (by omega) dL_isSolvable_14 (fun H locs hP hD hS => ?_)
      rw [pw_set] at hP hD
      obtain ⟨G_14, hg14⟩ : ∃ g : Nat → va_E, g = zu Gm (0) (aJ cJ (1) (zu (o0) (0) (1))) := ⟨_, rfl⟩
      have hP : va_P D vwCl (pw NP ad G_14) H := by rw [hg14]; exact hP
      have hD : va_D A (pw NP ad G_14) := by rw [hg14]; exact hD
      have ho14 : ∀ i8 : Nat, i8 ≠ 0 → G_14 i8 = Gm i8 := fun i8 hk => by rw [hg14]; exact zu_n _ _ hk
      have he14 : G_14 (0) = aJ cJ (1) (zu (o0) (0) (1)) := by rw [hg14]; exact zu_s _ _ _
      refine lv_goto (tgt := 21) hx hb dL_isSolvable_15 (by decide) ?_
      refine lv_iconst (v := iZ 0) hx hb dL_isSolvable_21 rfl ?_
      exact zr_iret hQ hx hb hr hlk dL_isSolvable_22 hK hP hD hS (by omega) (by omega) ⟨by omega, by omega⟩ (⟨G_14, rfl, Or.inl ⟨rfl, z9, hz9, hn1, hn2, hCm.at0 (fun i h1 _ => ho14 i h1), _, he14, (zu_s _ _ _).trans (by omega)⟩, fun i9 h9 => (ho14 i9 (by omega)).trans (hom i9)⟩)

set_option maxHeartbeats 4000000 in
set_option maxRecDepth 100000 in
/-- the helper most -/
theorem h_most (l : Launch) (D : va_G) (cI cJ cE cF cR : ClassId) (hst : l.stackTraces = false) (NP : Nat) (ad : Nat → Nat) (G : Nat → va_E) (V : Nat → Rat) (n : Nat) (wd el : Int) (hC9 : pCs cI cJ cE cF cR NP ad G V n wd el) (hNP : 480 ≤ NP) (o0 : Nat → Int) (ho0 : G 0 = aJ cJ 1 o0) (hpH : peH (pe V n n) ≤ 2147483647) : Hi l D (zty cI cJ cE cF cR) yL_most wsL_most ({ frames := 7, cells := 1, slots := 6, locals := 110 } : Room) 1 6 [.ref (ad 1), .ref (ad 0)] (pw NP ad G) (fun k9 w1 => ∃ G1 : Nat → va_E, w1 = pw NP ad G1 ∧ ((k9 = 0 ∧ ∃ z9 : Int, iR z9 ∧ el = 1 ∧ z9 = ((peH (pe V n n) : Nat) : Int) ∧ pCs cI cJ cE cF cR NP ad G1 (V) (n) (wd) (el) ∧ ∃ o1 : Nat → Int, G1 0 = aJ cJ 1 o1 ∧ o1 0 = z9) ∨ (k9 = 1 ∧ (el = 0) ∧ pCs cI cJ cE cF cR NP ad G1 (V) (n) (wd) (el) ∧ ∃ o1 : Nat → Int, G1 0 = aJ cJ 1 o1)) ∧ ∀ i9 : Nat, 480 ≤ i9 → G1 i9 = G i9) := by
  unfold Hi
  refine zsH (Qc := zQi D _ _) (cc := cL_most) (maxL := 3) (ret := (some .int)) (hh := [(0, 8, 11, 33)]) (by decide) rfl (Nat.le_of_ble_eq_true rfl) ?_
  intro zp ze s zm below meth zc ls A args Q hQ hx hb hr hts hown hlk hml hnm hN hX9 hHC htab hA hK hP hD hS hl
  have q_classLink_RL_33_java_lang_IllegalStateException := hts (.classLink RL 33 "java/lang/IllegalStateException") (by decide +kernel)
  have hl : lv_has ls 3 [(0, .ref (ad 1)), (1, .ref (ad 0))] := hl
  refine lv_aload_n hx hb dL_most_0 rfl (lv_at hl 1 rfl) ?_
  refine lv_iconst (v := iZ 0) hx hb dL_most_1 rfl ?_
  refine lv_aload_n hx hb dL_most_2 rfl (lv_at hl 0 rfl) ?_
  refine zh_Vi (As := []) (rest := [.int (iZ (0)), .ref (ad 0)]) ⟨hx, hb, hml, hown, hts⟩ (p_most l D cI cJ cE cF cR hst NP ad G  V n wd el hC9 hNP hpH) (cwV 0 hts gL_most_X10_most rfl rfl rfl (by decide +kernel) ⟨Nat.le_of_ble_eq_true rfl, Nat.le_of_ble_eq_true rfl⟩) hN hX9 hK hP hD hS hA (q0 := 1) (ci := 10) rfl rfl (pw_at (by omega) (hC9.1)) rfl hl.1 (Nat.le_of_ble_eq_true rfl) dL_most_3 ⟨by decide, by decide⟩ (fun E ce q9 H locs hpx hP hD hS hce hcv hcl => ?_) (fun z9 w1 H locs hz9 hp hP hD hS => ?_)
  · rcases hpx with ⟨rfl, hc9⟩
    · refine zh_c1 (E := "java/lang/IllegalStateException") hown htab (by decide) (by decide) q_classLink_RL_33_java_lang_IllegalStateException hX9.2.2.2 (by decide) hce hcv hcl ?_
      refine lv_astore_n (lv' := [(2, .ref (q9)), (0, .ref (ad 1)), (1, .ref (ad 0))]) hx hb dL_most_11 rfl hl (by decide) rfl (fun ls hl => ?_)
      refine lv_iconst (v := iZ 1) hx hb dL_most_12 rfl ?_
      exact zr_iret hQ hx hb hr hlk dL_most_13 hK hP hD hS (by omega) (by omega) ⟨by omega, by omega⟩ (⟨G, rfl, Or.inr (⟨rfl, hc9, hC9, o0, ho0⟩), fun _ _ => rfl⟩)
  · obtain ⟨Gm, rfl, hn1, hn2, hom⟩ := hp
    have hCm : pCs cI cJ cE cF cR NP ad Gm (V) (n) (wd) (el) := hC9.at0 (fun i _ _ => hom i)
    have k3_1 : Gm (0) = aJ cJ (1) (o0) := (hom (0)).trans (ho0)
    have hP : va_P D vwCl (pw NP ad Gm) H := hP
    have hD : va_D A (pw NP ad Gm) := hD
    refine zr_i2l hx hb hz9 dL_most_6 ?_
    refine zr_last hx hb hK hP hD hS (0) 1 (pw_at (by omega) (k3_1)) rfl (0) (by omega) (by omega) (by omega) dL_most_7 (fun H locs hP hD hS => ?_)
    rw [pw_set] at hP hD
    obtain ⟨G_7, hg7⟩ : ∃ g : Nat → va_E, g = zu Gm (0) (aJ cJ (1) (zu (o0) (0) (z9))) := ⟨_, rfl⟩
    have hP : va_P D vwCl (pw NP ad G_7) H := by rw [hg7]; exact hP
    have hD : va_D A (pw NP ad G_7) := by rw [hg7]; exact hD
    have ho7 : ∀ i8 : Nat, i8 ≠ 0 → G_7 i8 = Gm i8 := fun i8 hk => by rw [hg7]; exact zu_n _ _ hk
    have he7 : G_7 (0) = aJ cJ (1) (zu (o0) (0) (z9)) := by rw [hg7]; exact zu_s _ _ _
    refine lv_goto (tgt := 14) hx hb dL_most_8 (by decide) ?_
    refine lv_iconst (v := iZ 0) hx hb dL_most_14 rfl ?_
    exact zr_iret hQ hx hb hr hlk dL_most_15 hK hP hD hS (by omega) (by omega) ⟨by omega, by omega⟩ (⟨G_7, rfl, Or.inl ⟨rfl, z9, hz9, hn1, hn2, hCm.at0 (fun i h1 _ => ho7 i h1), _, he7, zu_s _ _ _⟩, fun i9 h9 => (ho7 i9 (by omega)).trans (hom i9)⟩)

set_option maxHeartbeats 4000000 in
set_option maxRecDepth 100000 in
/-- the helper pivot -/
theorem h_pivot (l : Launch) (D : va_G) (cI cJ cE cF cR : ClassId) (hst : l.stackTraces = false) (NP : Nat) (ad : Nat → Nat) (G : Nat → va_E) (y1 : Int) (V : Nat → Rat) (n : Nat) (wd el : Int) (hC9 : pCs cI cJ cE cF cR NP ad G V n wd el) (hNP : 480 ≤ NP) (hy1 : iR y1) (o0 : Nat → Int) (ho0 : G 0 = aJ cJ 1 o0) : Hi l D (zty cI cJ cE cF cR) yL_pivot wsL_pivot ({ frames := 7, cells := 1, slots := 6, locals := 151 } : Room) 1 6 [.ref (ad 1), .int (iZ (y1)), .ref (ad 0)] (pw NP ad G) (fun k9 w1 => ∃ G1 : Nat → va_E, w1 = pw NP ad G1 ∧ ((k9 = 0 ∧ ∃ z9 : Int, iR z9 ∧ ¬ (y1 < 0 ∨ (n : Int) ≤ y1) ∧ el = 1 ∧ z9 = peP (pe V n n) y1.toNat ∧ pCs cI cJ cE cF cR NP ad G1 (V) (n) (wd) (el) ∧ ∃ o1 : Nat → Int, G1 0 = aJ cJ 1 o1 ∧ o1 0 = z9) ∨ (k9 = 1 ∧ (y1 < 0 ∨ (n : Int) ≤ y1) ∧ pCs cI cJ cE cF cR NP ad G1 (V) (n) (wd) (el) ∧ ∃ o1 : Nat → Int, G1 0 = aJ cJ 1 o1) ∨ (k9 = 2 ∧ (¬ (y1 < 0 ∨ (n : Int) ≤ y1) ∧ el = 0) ∧ pCs cI cJ cE cF cR NP ad G1 (V) (n) (wd) (el) ∧ ∃ o1 : Nat → Int, G1 0 = aJ cJ 1 o1)) ∧ ∀ i9 : Nat, 480 ≤ i9 → G1 i9 = G i9) := by
  unfold Hi
  refine zsH (Qc := zQi D _ _) (cc := cL_pivot) (maxL := 4) (ret := (some .int)) (hh := [(0, 9, 12, 19), (0, 9, 15, 33)]) (by decide) rfl (Nat.le_of_ble_eq_true rfl) ?_
  intro zp ze s zm below meth zc ls A args Q hQ hx hb hr hts hown hlk hml hnm hN hX9 hHC htab hA hK hP hD hS hl
  have q_classLink_RL_19_java_lang_IndexOutOfBoundsExceptio := hts (.classLink RL 19 "java/lang/IndexOutOfBoundsException") (by decide +kernel)
  have q_classLink_RL_33_java_lang_IllegalStateException := hts (.classLink RL 33 "java/lang/IllegalStateException") (by decide +kernel)
  have hl : lv_has ls 4 [(0, .ref (ad 1)), (1, .int (iZ (y1))), (2, .ref (ad 0))] := hl
  refine lv_aload_n hx hb dL_pivot_0 rfl (lv_at hl 2 rfl) ?_
  refine lv_iconst (v := iZ 0) hx hb dL_pivot_1 rfl ?_
  refine lv_aload_n hx hb dL_pivot_2 rfl (lv_at hl 0 rfl) ?_
  refine lv_iload_n hx hb dL_pivot_3 rfl (lv_at hl 1 rfl) ?_
  refine zh_Vi (As := [.int (iZ (y1))]) (rest := [.int (iZ (0)), .ref (ad 0)]) ⟨hx, hb, hml, hown, hts⟩ (p_pivot l D cI cJ cE cF cR hst NP ad G y1 V n wd el hC9 hNP hy1) (cwV 1 hts gL_pivot_X10_pivot rfl rfl rfl (by decide +kernel) ⟨Nat.le_of_ble_eq_true rfl, Nat.le_of_ble_eq_true rfl⟩) hN hX9 hK hP hD hS hA (q0 := 1) (ci := 10) rfl rfl (pw_at (by omega) (hC9.1)) rfl hl.1 (Nat.le_of_ble_eq_true rfl) dL_pivot_4 ⟨by decide, by decide⟩ (fun E ce q9 H locs hpx hP hD hS hce hcv hcl => ?_) (fun z9 w1 H locs hz9 hp hP hD hS => ?_)
  · rcases hpx with ⟨rfl, hc9⟩ | ⟨rfl, hc9⟩
    · refine zh_c1 (E := "java/lang/IndexOutOfBoundsException") hown htab (by decide) (by decide) q_classLink_RL_19_java_lang_IndexOutOfBoundsExceptio hX9.2.2.2 (by decide) hce hcv hcl ?_
      refine lv_astore_n (lv' := [(3, .ref (q9)), (0, .ref (ad 1)), (1, .int (iZ (y1))), (2, .ref (ad 0))]) hx hb dL_pivot_12 rfl hl (by decide) rfl (fun ls hl => ?_)
      refine lv_iconst (v := iZ 1) hx hb dL_pivot_13 rfl ?_
      exact zr_iret hQ hx hb hr hlk dL_pivot_14 hK hP hD hS (by omega) (by omega) ⟨by omega, by omega⟩ (⟨G, rfl, Or.inr (Or.inl (⟨rfl, hc9, hC9, o0, ho0⟩)), fun _ _ => rfl⟩)
    · refine zh_c2 (E := "java/lang/IllegalStateException") (N1 := "java/lang/IndexOutOfBoundsException") hown htab (by decide) q_classLink_RL_19_java_lang_IndexOutOfBoundsExceptio hHC.2 (by decide) (by decide) q_classLink_RL_33_java_lang_IllegalStateException hX9.2.2.2 (by decide) hce hcv hcl ?_
      refine lv_astore_n (lv' := [(3, .ref (q9)), (0, .ref (ad 1)), (1, .int (iZ (y1))), (2, .ref (ad 0))]) hx hb dL_pivot_15 rfl hl (by decide) rfl (fun ls hl => ?_)
      refine lv_iconst (v := iZ 2) hx hb dL_pivot_16 rfl ?_
      exact zr_iret hQ hx hb hr hlk dL_pivot_17 hK hP hD hS (by omega) (by omega) ⟨by omega, by omega⟩ (⟨G, rfl, Or.inr (Or.inr (⟨rfl, hc9, hC9, o0, ho0⟩)), fun _ _ => rfl⟩)
  · obtain ⟨Gm, rfl, hn1, hn2, hn3, hom⟩ := hp
    have hCm : pCs cI cJ cE cF cR NP ad Gm (V) (n) (wd) (el) := hC9.at0 (fun i _ _ => hom i)
    have k4_1 : Gm (0) = aJ cJ (1) (o0) := (hom (0)).trans (ho0)
    have hP : va_P D vwCl (pw NP ad Gm) H := hP
    have hD : va_D A (pw NP ad Gm) := hD
    refine zr_i2l hx hb hz9 dL_pivot_7 ?_
    refine zr_last hx hb hK hP hD hS (0) 1 (pw_at (by omega) (k4_1)) rfl (0) (by omega) (by omega) (by omega) dL_pivot_8 (fun H locs hP hD hS => ?_)
    rw [pw_set] at hP hD
    obtain ⟨G_8, hg8⟩ : ∃ g : Nat → va_E, g = zu Gm (0) (aJ cJ (1) (zu (o0) (0) (z9))) := ⟨_, rfl⟩
    have hP : va_P D vwCl (pw NP ad G_8) H := by rw [hg8]; exact hP
    have hD : va_D A (pw NP ad G_8) := by rw [hg8]; exact hD
    have ho8 : ∀ i8 : Nat, i8 ≠ 0 → G_8 i8 = Gm i8 := fun i8 hk => by rw [hg8]; exact zu_n _ _ hk
    have he8 : G_8 (0) = aJ cJ (1) (zu (o0) (0) (z9)) := by rw [hg8]; exact zu_s _ _ _
    refine lv_goto (tgt := 18) hx hb dL_pivot_9 (by decide) ?_
    refine lv_iconst (v := iZ 0) hx hb dL_pivot_18 rfl ?_
    exact zr_iret hQ hx hb hr hlk dL_pivot_19 hK hP hD hS (by omega) (by omega) ⟨by omega, by omega⟩ (⟨G_8, rfl, Or.inl ⟨rfl, z9, hz9, hn1, hn2, hn3, hCm.at0 (fun i h1 _ => ho8 i h1), _, he8, zu_s _ _ _⟩, fun i9 h9 => (ho8 i9 (by omega)).trans (hom i9)⟩)

set_option maxHeartbeats 4000000 in
set_option maxRecDepth 100000 in
/-- the helper solution -/
theorem h_solution (l : Launch) (D : va_G) (cI cJ cE cF cR : ClassId) (hst : l.stackTraces = false) (NP : Nat) (ad : Nat → Nat) (G : Nat → va_E) (y1 y2 y3 : Int) (V : Nat → Rat) (n : Nat) (wd el : Int) (hC9 : pCs cI cJ cE cF cR NP ad G V n wd el) (hNP : 480 ≤ NP) (hy1 : iR y1) (hy2 : iR y2) (hy3 : iR y3) (o0 : Nat → Int) (ho0 : G 0 = aJ cJ 1 o0) : Hi l D (zty cI cJ cE cF cR) yL_solution wsL_solution ({ frames := 7, cells := 1, slots := 6, locals := 153 } : Room) 1 6 [.ref (ad 1), .int (iZ (y1)), .int (iZ (y2)), .int (iZ (y3)), .ref (ad 0)] (pw NP ad G) (fun k9 w1 => ∃ G1 : Nat → va_E, w1 = pw NP ad G1 ∧ ((k9 = 0 ∧ ∃ z9 : Int, iR z9 ∧ ¬ ((y1 < 0 ∨ (n : Int) ≤ y1) ∨ (y2 < 0 ∨ 2 < y2)) ∧ ¬ (el = 0 ∨ pe_svk (peM (pe V n n)) n (peR (pe V n n)) (n - peR (pe V n n)) = 0) ∧ bg_tl (pe_x (pe V n n) n y1.toNat).num.sign (((pe_x (pe V n n) n y1.toNat).num.natAbs : Nat) : Int) (((pe_x (pe V n n) n y1.toNat).den : Nat) : Int) y2 y3 z9 ∧ pCs cI cJ cE cF cR NP ad G1 (V) (n) (wd) (el) ∧ ∃ o1 : Nat → Int, G1 0 = aJ cJ 1 o1 ∧ o1 0 = z9) ∨ (k9 = 1 ∧ ((y1 < 0 ∨ (n : Int) ≤ y1) ∨ (y2 < 0 ∨ 2 < y2)) ∧ pCs cI cJ cE cF cR NP ad G1 (V) (n) (wd) (el) ∧ ∃ o1 : Nat → Int, G1 0 = aJ cJ 1 o1) ∨ (k9 = 2 ∧ (¬ ((y1 < 0 ∨ (n : Int) ≤ y1) ∨ (y2 < 0 ∨ 2 < y2)) ∧ (el = 0 ∨ pe_svk (peM (pe V n n)) n (peR (pe V n n)) (n - peR (pe V n n)) = 0)) ∧ pCs cI cJ cE cF cR NP ad G1 (V) (n) (wd) (el) ∧ ∃ o1 : Nat → Int, G1 0 = aJ cJ 1 o1)) ∧ ∀ i9 : Nat, 480 ≤ i9 → G1 i9 = G i9) := by
  unfold Hi
  refine zsH (Qc := zQi D _ _) (cc := cL_solution) (maxL := 6) (ret := (some .int)) (hh := [(0, 12, 15, 19), (0, 12, 19, 33)]) (by decide) rfl (Nat.le_of_ble_eq_true rfl) ?_
  intro zp ze s zm below meth zc ls A args Q hQ hx hb hr hts hown hlk hml hnm hN hX9 hHC htab hA hK hP hD hS hl
  have q_classLink_RL_19_java_lang_IndexOutOfBoundsExceptio := hts (.classLink RL 19 "java/lang/IndexOutOfBoundsException") (by decide +kernel)
  have q_classLink_RL_33_java_lang_IllegalStateException := hts (.classLink RL 33 "java/lang/IllegalStateException") (by decide +kernel)
  have hl : lv_has ls 6 [(0, .ref (ad 1)), (1, .int (iZ (y1))), (2, .int (iZ (y2))), (3, .int (iZ (y3))), (4, .ref (ad 0))] := hl
  refine lv_aload hx hb dL_solution_0 (lv_at hl 4 rfl) ?_
  refine lv_iconst (v := iZ 0) hx hb dL_solution_2 rfl ?_
  refine lv_aload_n hx hb dL_solution_3 rfl (lv_at hl 0 rfl) ?_
  refine lv_iload_n hx hb dL_solution_4 rfl (lv_at hl 1 rfl) ?_
  refine lv_iload_n hx hb dL_solution_5 rfl (lv_at hl 2 rfl) ?_
  refine lv_iload_n hx hb dL_solution_6 rfl (lv_at hl 3 rfl) ?_
  refine zh_Vi (As := [.int (iZ (y1)), .int (iZ (y2)), .int (iZ (y3))]) (rest := [.int (iZ (0)), .ref (ad 0)]) ⟨hx, hb, hml, hown, hts⟩ (p_solution l D cI cJ cE cF cR hst NP ad G y1 y2 y3 V n wd el hC9 hNP hy1 hy2 hy3) (cwV 3 hts gL_solution_X10_solution rfl rfl rfl (by decide +kernel) ⟨Nat.le_of_ble_eq_true rfl, Nat.le_of_ble_eq_true rfl⟩) hN hX9 hK hP hD hS hA (q0 := 1) (ci := 10) rfl rfl (pw_at (by omega) (hC9.1)) rfl hl.1 (Nat.le_of_ble_eq_true rfl) dL_solution_7 ⟨by decide, by decide⟩ (fun E ce q9 H locs hpx hP hD hS hce hcv hcl => ?_) (fun z9 w1 H locs hz9 hp hP hD hS => ?_)
  · rcases hpx with ⟨rfl, hc9⟩ | ⟨rfl, hc9⟩
    · refine zh_c1 (E := "java/lang/IndexOutOfBoundsException") hown htab (by decide) (by decide) q_classLink_RL_19_java_lang_IndexOutOfBoundsExceptio hX9.2.2.2 (by decide) hce hcv hcl ?_
      refine lv_astore (lv' := [(5, .ref (q9)), (0, .ref (ad 1)), (1, .int (iZ (y1))), (2, .int (iZ (y2))), (3, .int (iZ (y3))), (4, .ref (ad 0))]) hx hb dL_solution_15 hl (by decide) rfl (fun ls hl => ?_)
      refine lv_iconst (v := iZ 1) hx hb dL_solution_17 rfl ?_
      exact zr_iret hQ hx hb hr hlk dL_solution_18 hK hP hD hS (by omega) (by omega) ⟨by omega, by omega⟩ (⟨G, rfl, Or.inr (Or.inl (⟨rfl, hc9, hC9, o0, ho0⟩)), fun _ _ => rfl⟩)
    · refine zh_c2 (E := "java/lang/IllegalStateException") (N1 := "java/lang/IndexOutOfBoundsException") hown htab (by decide) q_classLink_RL_19_java_lang_IndexOutOfBoundsExceptio hHC.2 (by decide) (by decide) q_classLink_RL_33_java_lang_IllegalStateException hX9.2.2.2 (by decide) hce hcv hcl ?_
      refine lv_astore (lv' := [(5, .ref (q9)), (0, .ref (ad 1)), (1, .int (iZ (y1))), (2, .int (iZ (y2))), (3, .int (iZ (y3))), (4, .ref (ad 0))]) hx hb dL_solution_19 hl (by decide) rfl (fun ls hl => ?_)
      refine lv_iconst (v := iZ 2) hx hb dL_solution_21 rfl ?_
      exact zr_iret hQ hx hb hr hlk dL_solution_22 hK hP hD hS (by omega) (by omega) ⟨by omega, by omega⟩ (⟨G, rfl, Or.inr (Or.inr (⟨rfl, hc9, hC9, o0, ho0⟩)), fun _ _ => rfl⟩)
  · obtain ⟨Gm, rfl, hn1, hn2, hn3, hom⟩ := hp
    have hCm : pCs cI cJ cE cF cR NP ad Gm (V) (n) (wd) (el) := hC9.at0 (fun i _ _ => hom i)
    have k7_1 : Gm (0) = aJ cJ (1) (o0) := (hom (0)).trans (ho0)
    have hP : va_P D vwCl (pw NP ad Gm) H := hP
    have hD : va_D A (pw NP ad Gm) := hD
    refine zr_i2l hx hb hz9 dL_solution_10 ?_
    refine zr_last hx hb hK hP hD hS (0) 1 (pw_at (by omega) (k7_1)) rfl (0) (by omega) (by omega) (by omega) dL_solution_11 (fun H locs hP hD hS => ?_)
    rw [pw_set] at hP hD
    obtain ⟨G_11, hg11⟩ : ∃ g : Nat → va_E, g = zu Gm (0) (aJ cJ (1) (zu (o0) (0) (z9))) := ⟨_, rfl⟩
    have hP : va_P D vwCl (pw NP ad G_11) H := by rw [hg11]; exact hP
    have hD : va_D A (pw NP ad G_11) := by rw [hg11]; exact hD
    have ho11 : ∀ i8 : Nat, i8 ≠ 0 → G_11 i8 = Gm i8 := fun i8 hk => by rw [hg11]; exact zu_n _ _ hk
    have he11 : G_11 (0) = aJ cJ (1) (zu (o0) (0) (z9)) := by rw [hg11]; exact zu_s _ _ _
    refine lv_goto (tgt := 23) hx hb dL_solution_12 (by decide) ?_
    refine lv_iconst (v := iZ 0) hx hb dL_solution_23 rfl ?_
    exact zr_iret hQ hx hb hr hlk dL_solution_24 hK hP hD hS (by omega) (by omega) ⟨by omega, by omega⟩ (⟨G_11, rfl, Or.inl ⟨rfl, z9, hz9, hn1, hn2, hn3, hCm.at0 (fun i h1 _ => ho11 i h1), _, he11, zu_s _ _ _⟩, fun i9 h9 => (ho11 i9 (by omega)).trans (hom i9)⟩)

set_option maxHeartbeats 4000000 in
set_option maxRecDepth 100000 in
/-- the helper determinant -/
theorem h_determinant (l : Launch) (D : va_G) (cI cJ cE cF cR : ClassId) (hst : l.stackTraces = false) (NP : Nat) (ad : Nat → Nat) (G : Nat → va_E) (y2 y3 : Int) (V : Nat → Rat) (n : Nat) (wd el : Int) (hC9 : pCs cI cJ cE cF cR NP ad G V n wd el) (hNP : 480 ≤ NP) (hy2 : iR y2) (hy3 : iR y3) (o0 : Nat → Int) (ho0 : G 0 = aJ cJ 1 o0) : Hi l D (zty cI cJ cE cF cR) yL_determinant wsL_determinant ({ frames := 7, cells := 1, slots := 6, locals := 152 } : Room) 1 6 [.ref (ad 1), .int (iZ (y2)), .int (iZ (y3)), .ref (ad 0)] (pw NP ad G) (fun k9 w1 => ∃ G1 : Nat → va_E, w1 = pw NP ad G1 ∧ ((k9 = 0 ∧ ∃ z9 : Int, iR z9 ∧ ¬ (y2 < 0 ∨ 2 < y2) ∧ el = 1 ∧ bg_tl ((if peR (pe V n n) = n then pe_dt (peM (pe V n n)) (peT (pe V n n)) n else 0)).num.sign ((((if peR (pe V n n) = n then pe_dt (peM (pe V n n)) (peT (pe V n n)) n else 0)).num.natAbs : Nat) : Int) ((((if peR (pe V n n) = n then pe_dt (peM (pe V n n)) (peT (pe V n n)) n else 0)).den : Nat) : Int) y2 y3 z9 ∧ pCs cI cJ cE cF cR NP ad G1 (V) (n) (wd) (el) ∧ ∃ o1 : Nat → Int, G1 0 = aJ cJ 1 o1 ∧ o1 0 = z9) ∨ (k9 = 1 ∧ (y2 < 0 ∨ 2 < y2) ∧ pCs cI cJ cE cF cR NP ad G1 (V) (n) (wd) (el) ∧ ∃ o1 : Nat → Int, G1 0 = aJ cJ 1 o1) ∨ (k9 = 2 ∧ (¬ (y2 < 0 ∨ 2 < y2) ∧ el = 0) ∧ pCs cI cJ cE cF cR NP ad G1 (V) (n) (wd) (el) ∧ ∃ o1 : Nat → Int, G1 0 = aJ cJ 1 o1)) ∧ ∀ i9 : Nat, 480 ≤ i9 → G1 i9 = G i9) := by
  unfold Hi
  refine zsH (Qc := zQi D _ _) (cc := cL_determinant) (maxL := 5) (ret := (some .int)) (hh := [(0, 10, 13, 19), (0, 10, 17, 33)]) (by decide) rfl (Nat.le_of_ble_eq_true rfl) ?_
  intro zp ze s zm below meth zc ls A args Q hQ hx hb hr hts hown hlk hml hnm hN hX9 hHC htab hA hK hP hD hS hl
  have q_classLink_RL_19_java_lang_IndexOutOfBoundsExceptio := hts (.classLink RL 19 "java/lang/IndexOutOfBoundsException") (by decide +kernel)
  have q_classLink_RL_33_java_lang_IllegalStateException := hts (.classLink RL 33 "java/lang/IllegalStateException") (by decide +kernel)
  have hl : lv_has ls 5 [(0, .ref (ad 1)), (1, .int (iZ (y2))), (2, .int (iZ (y3))), (3, .ref (ad 0))] := hl
  refine lv_aload_n hx hb dL_determinant_0 rfl (lv_at hl 3 rfl) ?_
  refine lv_iconst (v := iZ 0) hx hb dL_determinant_1 rfl ?_
  refine lv_aload_n hx hb dL_determinant_2 rfl (lv_at hl 0 rfl) ?_
  refine lv_iload_n hx hb dL_determinant_3 rfl (lv_at hl 1 rfl) ?_
  refine lv_iload_n hx hb dL_determinant_4 rfl (lv_at hl 2 rfl) ?_
  refine zh_Vi (As := [.int (iZ (y2)), .int (iZ (y3))]) (rest := [.int (iZ (0)), .ref (ad 0)]) ⟨hx, hb, hml, hown, hts⟩ (p_determinant l D cI cJ cE cF cR hst NP ad G y2 y3 V n wd el hC9 hNP hy2 hy3) (cwV 2 hts gL_determinant_X10_determinant rfl rfl rfl (by decide +kernel) ⟨Nat.le_of_ble_eq_true rfl, Nat.le_of_ble_eq_true rfl⟩) hN hX9 hK hP hD hS hA (q0 := 1) (ci := 10) rfl rfl (pw_at (by omega) (hC9.1)) rfl hl.1 (Nat.le_of_ble_eq_true rfl) dL_determinant_5 ⟨by decide, by decide⟩ (fun E ce q9 H locs hpx hP hD hS hce hcv hcl => ?_) (fun z9 w1 H locs hz9 hp hP hD hS => ?_)
  · rcases hpx with ⟨rfl, hc9⟩ | ⟨rfl, hc9⟩
    · refine zh_c1 (E := "java/lang/IndexOutOfBoundsException") hown htab (by decide) (by decide) q_classLink_RL_19_java_lang_IndexOutOfBoundsExceptio hX9.2.2.2 (by decide) hce hcv hcl ?_
      refine lv_astore (lv' := [(4, .ref (q9)), (0, .ref (ad 1)), (1, .int (iZ (y2))), (2, .int (iZ (y3))), (3, .ref (ad 0))]) hx hb dL_determinant_13 hl (by decide) rfl (fun ls hl => ?_)
      refine lv_iconst (v := iZ 1) hx hb dL_determinant_15 rfl ?_
      exact zr_iret hQ hx hb hr hlk dL_determinant_16 hK hP hD hS (by omega) (by omega) ⟨by omega, by omega⟩ (⟨G, rfl, Or.inr (Or.inl (⟨rfl, hc9, hC9, o0, ho0⟩)), fun _ _ => rfl⟩)
    · refine zh_c2 (E := "java/lang/IllegalStateException") (N1 := "java/lang/IndexOutOfBoundsException") hown htab (by decide) q_classLink_RL_19_java_lang_IndexOutOfBoundsExceptio hHC.2 (by decide) (by decide) q_classLink_RL_33_java_lang_IllegalStateException hX9.2.2.2 (by decide) hce hcv hcl ?_
      refine lv_astore (lv' := [(4, .ref (q9)), (0, .ref (ad 1)), (1, .int (iZ (y2))), (2, .int (iZ (y3))), (3, .ref (ad 0))]) hx hb dL_determinant_17 hl (by decide) rfl (fun ls hl => ?_)
      refine lv_iconst (v := iZ 2) hx hb dL_determinant_19 rfl ?_
      exact zr_iret hQ hx hb hr hlk dL_determinant_20 hK hP hD hS (by omega) (by omega) ⟨by omega, by omega⟩ (⟨G, rfl, Or.inr (Or.inr (⟨rfl, hc9, hC9, o0, ho0⟩)), fun _ _ => rfl⟩)
  · obtain ⟨Gm, rfl, hn1, hn2, hn3, hom⟩ := hp
    have hCm : pCs cI cJ cE cF cR NP ad Gm (V) (n) (wd) (el) := hC9.at0 (fun i _ _ => hom i)
    have k5_1 : Gm (0) = aJ cJ (1) (o0) := (hom (0)).trans (ho0)
    have hP : va_P D vwCl (pw NP ad Gm) H := hP
    have hD : va_D A (pw NP ad Gm) := hD
    refine zr_i2l hx hb hz9 dL_determinant_8 ?_
    refine zr_last hx hb hK hP hD hS (0) 1 (pw_at (by omega) (k5_1)) rfl (0) (by omega) (by omega) (by omega) dL_determinant_9 (fun H locs hP hD hS => ?_)
    rw [pw_set] at hP hD
    obtain ⟨G_9, hg9⟩ : ∃ g : Nat → va_E, g = zu Gm (0) (aJ cJ (1) (zu (o0) (0) (z9))) := ⟨_, rfl⟩
    have hP : va_P D vwCl (pw NP ad G_9) H := by rw [hg9]; exact hP
    have hD : va_D A (pw NP ad G_9) := by rw [hg9]; exact hD
    have ho9 : ∀ i8 : Nat, i8 ≠ 0 → G_9 i8 = Gm i8 := fun i8 hk => by rw [hg9]; exact zu_n _ _ hk
    have he9 : G_9 (0) = aJ cJ (1) (zu (o0) (0) (z9)) := by rw [hg9]; exact zu_s _ _ _
    refine lv_goto (tgt := 21) hx hb dL_determinant_10 (by decide) ?_
    refine lv_iconst (v := iZ 0) hx hb dL_determinant_21 rfl ?_
    exact zr_iret hQ hx hb hr hlk dL_determinant_22 hK hP hD hS (by omega) (by omega) ⟨by omega, by omega⟩ (⟨G_9, rfl, Or.inl ⟨rfl, z9, hz9, hn1, hn2, hn3, hCm.at0 (fun i h1 _ => ho9 i h1), _, he9, zu_s _ _ _⟩, fun i9 h9 => (ho9 i9 (by omega)).trans (hom i9)⟩)

set_option maxHeartbeats 4000000 in
set_option maxRecDepth 100000 in
/-- the helper cell -/
theorem h_cell (l : Launch) (D : va_G) (cI cJ cE cF cR : ClassId) (hst : l.stackTraces = false) (NP : Nat) (ad : Nat → Nat) (G : Nat → va_E) (y1 y4 y2 y3 : Int) (V : Nat → Rat) (n : Nat) (wd el : Int) (hC9 : pCs cI cJ cE cF cR NP ad G V n wd el) (hNP : 480 ≤ NP) (hy1 : iR y1) (hy4 : iR y4) (hy2 : iR y2) (hy3 : iR y3) (o0 : Nat → Int) (ho0 : G 0 = aJ cJ 1 o0) : Hi l D (zty cI cJ cE cF cR) yL_cell wsL_cell ({ frames := 7, cells := 1, slots := 6, locals := 154 } : Room) 1 6 [.ref (ad 1), .int (iZ (y1)), .int (iZ (y4)), .int (iZ (y2)), .int (iZ (y3)), .ref (ad 0)] (pw NP ad G) (fun k9 w1 => ∃ G1 : Nat → va_E, w1 = pw NP ad G1 ∧ ((k9 = 0 ∧ ∃ z9 : Int, iR z9 ∧ ¬ ((y1 < 0 ∨ (n : Int) ≤ y1 ∨ y4 < 0 ∨ (n : Int) < y4) ∨ (y2 < 0 ∨ 2 < y2)) ∧ el = 1 ∧ bg_tl (peM (pe V n n) y1.toNat y4.toNat).num.sign (((peM (pe V n n) y1.toNat y4.toNat).num.natAbs : Nat) : Int) (((peM (pe V n n) y1.toNat y4.toNat).den : Nat) : Int) y2 y3 z9 ∧ pCs cI cJ cE cF cR NP ad G1 (V) (n) (wd) (el) ∧ ∃ o1 : Nat → Int, G1 0 = aJ cJ 1 o1 ∧ o1 0 = z9) ∨ (k9 = 1 ∧ ((y1 < 0 ∨ (n : Int) ≤ y1 ∨ y4 < 0 ∨ (n : Int) < y4) ∨ (y2 < 0 ∨ 2 < y2)) ∧ pCs cI cJ cE cF cR NP ad G1 (V) (n) (wd) (el) ∧ ∃ o1 : Nat → Int, G1 0 = aJ cJ 1 o1) ∨ (k9 = 2 ∧ (¬ ((y1 < 0 ∨ (n : Int) ≤ y1 ∨ y4 < 0 ∨ (n : Int) < y4) ∨ (y2 < 0 ∨ 2 < y2)) ∧ el = 0) ∧ pCs cI cJ cE cF cR NP ad G1 (V) (n) (wd) (el) ∧ ∃ o1 : Nat → Int, G1 0 = aJ cJ 1 o1)) ∧ ∀ i9 : Nat, 480 ≤ i9 → G1 i9 = G i9) := by
  unfold Hi
  refine zsH (Qc := zQi D _ _) (cc := cL_cell) (maxL := 7) (ret := (some .int)) (hh := [(0, 14, 17, 19), (0, 14, 21, 33)]) (by decide) rfl (Nat.le_of_ble_eq_true rfl) ?_
  intro zp ze s zm below meth zc ls A args Q hQ hx hb hr hts hown hlk hml hnm hN hX9 hHC htab hA hK hP hD hS hl
  have q_classLink_RL_19_java_lang_IndexOutOfBoundsExceptio := hts (.classLink RL 19 "java/lang/IndexOutOfBoundsException") (by decide +kernel)
  have q_classLink_RL_33_java_lang_IllegalStateException := hts (.classLink RL 33 "java/lang/IllegalStateException") (by decide +kernel)
  have hl : lv_has ls 7 [(0, .ref (ad 1)), (1, .int (iZ (y1))), (2, .int (iZ (y4))), (3, .int (iZ (y2))), (4, .int (iZ (y3))), (5, .ref (ad 0))] := hl
  refine lv_aload hx hb dL_cell_0 (lv_at hl 5 rfl) ?_
  refine lv_iconst (v := iZ 0) hx hb dL_cell_2 rfl ?_
  refine lv_aload_n hx hb dL_cell_3 rfl (lv_at hl 0 rfl) ?_
  refine lv_iload_n hx hb dL_cell_4 rfl (lv_at hl 1 rfl) ?_
  refine lv_iload_n hx hb dL_cell_5 rfl (lv_at hl 2 rfl) ?_
  refine lv_iload_n hx hb dL_cell_6 rfl (lv_at hl 3 rfl) ?_
  refine lv_iload hx hb dL_cell_7 (lv_at hl 4 rfl) ?_
  refine zh_Vi (As := [.int (iZ (y1)), .int (iZ (y4)), .int (iZ (y2)), .int (iZ (y3))]) (rest := [.int (iZ (0)), .ref (ad 0)]) ⟨hx, hb, hml, hown, hts⟩ (p_cell l D cI cJ cE cF cR hst NP ad G y1 y4 y2 y3 V n wd el hC9 hNP hy1 hy4 hy2 hy3) (cwV 4 hts gL_cell_X10_cell rfl rfl rfl (by decide +kernel) ⟨Nat.le_of_ble_eq_true rfl, Nat.le_of_ble_eq_true rfl⟩) hN hX9 hK hP hD hS hA (q0 := 1) (ci := 10) rfl rfl (pw_at (by omega) (hC9.1)) rfl hl.1 (Nat.le_of_ble_eq_true rfl) dL_cell_9 ⟨by decide, by decide⟩ (fun E ce q9 H locs hpx hP hD hS hce hcv hcl => ?_) (fun z9 w1 H locs hz9 hp hP hD hS => ?_)
  · rcases hpx with ⟨rfl, hc9⟩ | ⟨rfl, hc9⟩
    · refine zh_c1 (E := "java/lang/IndexOutOfBoundsException") hown htab (by decide) (by decide) q_classLink_RL_19_java_lang_IndexOutOfBoundsExceptio hX9.2.2.2 (by decide) hce hcv hcl ?_
      refine lv_astore (lv' := [(6, .ref (q9)), (0, .ref (ad 1)), (1, .int (iZ (y1))), (2, .int (iZ (y4))), (3, .int (iZ (y2))), (4, .int (iZ (y3))), (5, .ref (ad 0))]) hx hb dL_cell_17 hl (by decide) rfl (fun ls hl => ?_)
      refine lv_iconst (v := iZ 1) hx hb dL_cell_19 rfl ?_
      exact zr_iret hQ hx hb hr hlk dL_cell_20 hK hP hD hS (by omega) (by omega) ⟨by omega, by omega⟩ (⟨G, rfl, Or.inr (Or.inl (⟨rfl, hc9, hC9, o0, ho0⟩)), fun _ _ => rfl⟩)
    · refine zh_c2 (E := "java/lang/IllegalStateException") (N1 := "java/lang/IndexOutOfBoundsException") hown htab (by decide) q_classLink_RL_19_java_lang_IndexOutOfBoundsExceptio hHC.2 (by decide) (by decide) q_classLink_RL_33_java_lang_IllegalStateException hX9.2.2.2 (by decide) hce hcv hcl ?_
      refine lv_astore (lv' := [(6, .ref (q9)), (0, .ref (ad 1)), (1, .int (iZ (y1))), (2, .int (iZ (y4))), (3, .int (iZ (y2))), (4, .int (iZ (y3))), (5, .ref (ad 0))]) hx hb dL_cell_21 hl (by decide) rfl (fun ls hl => ?_)
      refine lv_iconst (v := iZ 2) hx hb dL_cell_23 rfl ?_
      exact zr_iret hQ hx hb hr hlk dL_cell_24 hK hP hD hS (by omega) (by omega) ⟨by omega, by omega⟩ (⟨G, rfl, Or.inr (Or.inr (⟨rfl, hc9, hC9, o0, ho0⟩)), fun _ _ => rfl⟩)
  · obtain ⟨Gm, rfl, hn1, hn2, hn3, hom⟩ := hp
    have hCm : pCs cI cJ cE cF cR NP ad Gm (V) (n) (wd) (el) := hC9.at0 (fun i _ _ => hom i)
    have k9_1 : Gm (0) = aJ cJ (1) (o0) := (hom (0)).trans (ho0)
    have hP : va_P D vwCl (pw NP ad Gm) H := hP
    have hD : va_D A (pw NP ad Gm) := hD
    refine zr_i2l hx hb hz9 dL_cell_12 ?_
    refine zr_last hx hb hK hP hD hS (0) 1 (pw_at (by omega) (k9_1)) rfl (0) (by omega) (by omega) (by omega) dL_cell_13 (fun H locs hP hD hS => ?_)
    rw [pw_set] at hP hD
    obtain ⟨G_13, hg13⟩ : ∃ g : Nat → va_E, g = zu Gm (0) (aJ cJ (1) (zu (o0) (0) (z9))) := ⟨_, rfl⟩
    have hP : va_P D vwCl (pw NP ad G_13) H := by rw [hg13]; exact hP
    have hD : va_D A (pw NP ad G_13) := by rw [hg13]; exact hD
    have ho13 : ∀ i8 : Nat, i8 ≠ 0 → G_13 i8 = Gm i8 := fun i8 hk => by rw [hg13]; exact zu_n _ _ hk
    have he13 : G_13 (0) = aJ cJ (1) (zu (o0) (0) (z9)) := by rw [hg13]; exact zu_s _ _ _
    refine lv_goto (tgt := 25) hx hb dL_cell_14 (by decide) ?_
    refine lv_iconst (v := iZ 0) hx hb dL_cell_25 rfl ?_
    exact zr_iret hQ hx hb hr hlk dL_cell_26 hK hP hD hS (by omega) (by omega) ⟨by omega, by omega⟩ (⟨G_13, rfl, Or.inl ⟨rfl, z9, hz9, hn1, hn2, hn3, hCm.at0 (fun i h1 _ => ho13 i h1), _, he13, zu_s _ _ _⟩, fun i9 h9 => (ho13 i9 (by omega)).trans (hom i9)⟩)

set_option maxHeartbeats 4000000 in
set_option maxRecDepth 100000 in
/-- the helper told -/
theorem h_told (l : Launch) (D : va_G) (cI cJ cE cF cR : ClassId) (hst : l.stackTraces = false) (NP : Nat) (ad : Nat → Nat) (G : Nat → va_E) (y1 y4 y2 y3 : Int) (V : Nat → Rat) (n : Nat) (wd el : Int) (hC9 : pCs cI cJ cE cF cR NP ad G V n wd el) (hNP : 480 ≤ NP) (hy1 : iR y1) (hy4 : iR y4) (hy2 : iR y2) (hy3 : iR y3) (o0 : Nat → Int) (ho0 : G 0 = aJ cJ 1 o0) : Hi l D (zty cI cJ cE cF cR) yL_told wsL_told ({ frames := 7, cells := 1, slots := 6, locals := 154 } : Room) 1 6 [.ref (ad 1), .int (iZ (y1)), .int (iZ (y4)), .int (iZ (y2)), .int (iZ (y3)), .ref (ad 0)] (pw NP ad G) (fun k9 w1 => ∃ G1 : Nat → va_E, w1 = pw NP ad G1 ∧ ((k9 = 0 ∧ ∃ z9 : Int, iR z9 ∧ ¬ ((y1 < 0 ∨ (n : Int) ≤ y1 ∨ y4 < 0 ∨ (n : Int) < y4) ∨ (y2 < 0 ∨ 2 < y2)) ∧ bg_tl (V (7 * y1.toNat + y4.toNat)).num.sign (((V (7 * y1.toNat + y4.toNat)).num.natAbs : Nat) : Int) (((V (7 * y1.toNat + y4.toNat)).den : Nat) : Int) y2 y3 z9 ∧ pCs cI cJ cE cF cR NP ad G1 (V) (n) (wd) (el) ∧ ∃ o1 : Nat → Int, G1 0 = aJ cJ 1 o1 ∧ o1 0 = z9) ∨ (k9 = 1 ∧ ((y1 < 0 ∨ (n : Int) ≤ y1 ∨ y4 < 0 ∨ (n : Int) < y4) ∨ (y2 < 0 ∨ 2 < y2)) ∧ pCs cI cJ cE cF cR NP ad G1 (V) (n) (wd) (el) ∧ ∃ o1 : Nat → Int, G1 0 = aJ cJ 1 o1)) ∧ ∀ i9 : Nat, 480 ≤ i9 → G1 i9 = G i9) := by
  unfold Hi
  refine zsH (Qc := zQi D _ _) (cc := cL_told) (maxL := 7) (ret := (some .int)) (hh := [(0, 14, 17, 19)]) (by decide) rfl (Nat.le_of_ble_eq_true rfl) ?_
  intro zp ze s zm below meth zc ls A args Q hQ hx hb hr hts hown hlk hml hnm hN hX9 hHC htab hA hK hP hD hS hl
  have q_classLink_RL_19_java_lang_IndexOutOfBoundsExceptio := hts (.classLink RL 19 "java/lang/IndexOutOfBoundsException") (by decide +kernel)
  have hl : lv_has ls 7 [(0, .ref (ad 1)), (1, .int (iZ (y1))), (2, .int (iZ (y4))), (3, .int (iZ (y2))), (4, .int (iZ (y3))), (5, .ref (ad 0))] := hl
  refine lv_aload hx hb dL_told_0 (lv_at hl 5 rfl) ?_
  refine lv_iconst (v := iZ 0) hx hb dL_told_2 rfl ?_
  refine lv_aload_n hx hb dL_told_3 rfl (lv_at hl 0 rfl) ?_
  refine lv_iload_n hx hb dL_told_4 rfl (lv_at hl 1 rfl) ?_
  refine lv_iload_n hx hb dL_told_5 rfl (lv_at hl 2 rfl) ?_
  refine lv_iload_n hx hb dL_told_6 rfl (lv_at hl 3 rfl) ?_
  refine lv_iload hx hb dL_told_7 (lv_at hl 4 rfl) ?_
  refine zh_Vi (As := [.int (iZ (y1)), .int (iZ (y4)), .int (iZ (y2)), .int (iZ (y3))]) (rest := [.int (iZ (0)), .ref (ad 0)]) ⟨hx, hb, hml, hown, hts⟩ (p_told l D cI cJ cE cF cR hst NP ad G y1 y4 y2 y3 V n wd el hC9 hNP hy1 hy4 hy2 hy3) (cwV 4 hts gL_told_X10_told rfl rfl rfl (by decide +kernel) ⟨Nat.le_of_ble_eq_true rfl, Nat.le_of_ble_eq_true rfl⟩) hN hX9 hK hP hD hS hA (q0 := 1) (ci := 10) rfl rfl (pw_at (by omega) (hC9.1)) rfl hl.1 (Nat.le_of_ble_eq_true rfl) dL_told_9 ⟨by decide, by decide⟩ (fun E ce q9 H locs hpx hP hD hS hce hcv hcl => ?_) (fun z9 w1 H locs hz9 hp hP hD hS => ?_)
  · rcases hpx with ⟨rfl, hc9⟩
    · refine zh_c1 (E := "java/lang/IndexOutOfBoundsException") hown htab (by decide) (by decide) q_classLink_RL_19_java_lang_IndexOutOfBoundsExceptio hX9.2.2.2 (by decide) hce hcv hcl ?_
      refine lv_astore (lv' := [(6, .ref (q9)), (0, .ref (ad 1)), (1, .int (iZ (y1))), (2, .int (iZ (y4))), (3, .int (iZ (y2))), (4, .int (iZ (y3))), (5, .ref (ad 0))]) hx hb dL_told_17 hl (by decide) rfl (fun ls hl => ?_)
      refine lv_iconst (v := iZ 1) hx hb dL_told_19 rfl ?_
      exact zr_iret hQ hx hb hr hlk dL_told_20 hK hP hD hS (by omega) (by omega) ⟨by omega, by omega⟩ (⟨G, rfl, Or.inr (⟨rfl, hc9, hC9, o0, ho0⟩), fun _ _ => rfl⟩)
  · obtain ⟨Gm, rfl, hn1, hn2, hCm, hom⟩ := hp
    have k9_1 : Gm (0) = aJ cJ (1) (o0) := (hom (0) (by omega)).trans (ho0)
    have hP : va_P D vwCl (pw NP ad Gm) H := hP
    have hD : va_D A (pw NP ad Gm) := hD
    refine zr_i2l hx hb hz9 dL_told_12 ?_
    refine zr_last hx hb hK hP hD hS (0) 1 (pw_at (by omega) (k9_1)) rfl (0) (by omega) (by omega) (by omega) dL_told_13 (fun H locs hP hD hS => ?_)
    rw [pw_set] at hP hD
    obtain ⟨G_13, hg13⟩ : ∃ g : Nat → va_E, g = zu Gm (0) (aJ cJ (1) (zu (o0) (0) (z9))) := ⟨_, rfl⟩
    have hP : va_P D vwCl (pw NP ad G_13) H := by rw [hg13]; exact hP
    have hD : va_D A (pw NP ad G_13) := by rw [hg13]; exact hD
    have ho13 : ∀ i8 : Nat, i8 ≠ 0 → G_13 i8 = Gm i8 := fun i8 hk => by rw [hg13]; exact zu_n _ _ hk
    have he13 : G_13 (0) = aJ cJ (1) (zu (o0) (0) (z9)) := by rw [hg13]; exact zu_s _ _ _
    refine lv_goto (tgt := 21) hx hb dL_told_14 (by decide) ?_
    refine lv_iconst (v := iZ 0) hx hb dL_told_21 rfl ?_
    exact zr_iret hQ hx hb hr hlk dL_told_22 hK hP hD hS (by omega) (by omega) ⟨by omega, by omega⟩ (⟨G_13, rfl, Or.inl ⟨rfl, z9, hz9, hn1, hn2, hCm.at0 (fun i h1 _ => ho13 i h1), _, he13, zu_s _ _ _⟩, fun i9 h9 => (ho13 i9 (by omega)).trans (hom i9 (by omega))⟩)

set_option maxHeartbeats 4000000 in
set_option maxRecDepth 100000 in
/-- the helper isRight -/
theorem h_isRight (l : Launch) (D : va_G) (cI cJ cE cF cR : ClassId) (hst : l.stackTraces = false) (NP : Nat) (ad : Nat → Nat) (G : Nat → va_E) (y1 : Int) (V : Nat → Rat) (n : Nat) (wd el : Int) (hC9 : pCs cI cJ cE cF cR NP ad G V n wd el) (hNP : 480 ≤ NP) (hy1 : iR y1) (o0 : Nat → Int) (ho0 : G 0 = aJ cJ 1 o0) : Hi l D (zty cI cJ cE cF cR) yL_isRight wsL_isRight ({ frames := 8, cells := 1, slots := 6, locals := 241 } : Room) 1 6 [.ref (ad 1), .int (iZ (y1)), .ref (ad 0)] (pw NP ad G) (fun k9 w1 => ∃ G1 : Nat → va_E, w1 = pw NP ad G1 ∧ ((k9 = 0 ∧ ∃ z9 : Int, iR z9 ∧ ¬ (y1 < 0 ∨ (n : Int) ≤ y1) ∧ ¬ (el = 0 ∨ pe_svk (peM (pe V n n)) n (peR (pe V n n)) (n - peR (pe V n n)) = 0) ∧ z9 = (if pe_rs V (pe V n n) n y1.toNat n = V (7 * y1.toNat + n) then 1 else 0) ∧ pCs cI cJ cE cF cR NP ad G1 (V) (n) (wd) (el) ∧ ∃ o1 : Nat → Int, G1 0 = aJ cJ 1 o1 ∧ o1 0 = z9) ∨ (k9 = 1 ∧ (y1 < 0 ∨ (n : Int) ≤ y1) ∧ pCs cI cJ cE cF cR NP ad G1 (V) (n) (wd) (el) ∧ ∃ o1 : Nat → Int, G1 0 = aJ cJ 1 o1) ∨ (k9 = 2 ∧ (¬ (y1 < 0 ∨ (n : Int) ≤ y1) ∧ (el = 0 ∨ pe_svk (peM (pe V n n)) n (peR (pe V n n)) (n - peR (pe V n n)) = 0)) ∧ pCs cI cJ cE cF cR NP ad G1 (V) (n) (wd) (el) ∧ ∃ o1 : Nat → Int, G1 0 = aJ cJ 1 o1)) ∧ ∀ i9 : Nat, 480 ≤ i9 → G1 i9 = G i9) := by
  unfold Hi
  refine zsH (Qc := zQi D _ _) (cc := cL_isRight) (maxL := 4) (ret := (some .int)) (hh := [(0, 16, 19, 19), (0, 16, 22, 33)]) (by decide) rfl (Nat.le_of_ble_eq_true rfl) ?_
  intro zp ze s zm below meth zc ls A args Q hQ hx hb hr hts hown hlk hml hnm hN hX9 hHC htab hA hK hP hD hS hl
  have q_classLink_RL_19_java_lang_IndexOutOfBoundsExceptio := hts (.classLink RL 19 "java/lang/IndexOutOfBoundsException") (by decide +kernel)
  have q_classLink_RL_33_java_lang_IllegalStateException := hts (.classLink RL 33 "java/lang/IllegalStateException") (by decide +kernel)
  have hl : lv_has ls 4 [(0, .ref (ad 1)), (1, .int (iZ (y1))), (2, .ref (ad 0))] := hl
  refine lv_aload_n hx hb dL_isRight_0 rfl (lv_at hl 2 rfl) ?_
  refine lv_iconst (v := iZ 0) hx hb dL_isRight_1 rfl ?_
  refine lv_aload_n hx hb dL_isRight_2 rfl (lv_at hl 0 rfl) ?_
  refine lv_iload_n hx hb dL_isRight_3 rfl (lv_at hl 1 rfl) ?_
  refine zh_Vi (As := [.int (iZ (y1))]) (rest := [.int (iZ (0)), .ref (ad 0)]) ⟨hx, hb, hml, hown, hts⟩ (p_isRight l D cI cJ cE cF cR hst NP ad G y1 V n wd el hC9 hNP hy1) (cwV 1 hts gL_isRight_X10_isRight rfl rfl rfl (by decide +kernel) ⟨Nat.le_of_ble_eq_true rfl, Nat.le_of_ble_eq_true rfl⟩) hN hX9 hK hP hD hS hA (q0 := 1) (ci := 10) rfl rfl (pw_at (by omega) (hC9.1)) rfl hl.1 (Nat.le_of_ble_eq_true rfl) dL_isRight_4 ⟨by decide, by decide⟩ (fun E ce q9 H locs hpx hP hD hS hce hcv hcl => ?_) (fun z9 w1 H locs hz9 hp hP hD hS => ?_)
  · rcases hpx with ⟨rfl, hc9⟩ | ⟨rfl, hc9⟩
    · refine zh_c1 (E := "java/lang/IndexOutOfBoundsException") hown htab (by decide) (by decide) q_classLink_RL_19_java_lang_IndexOutOfBoundsExceptio hX9.2.2.2 (by decide) hce hcv hcl ?_
      refine lv_astore_n (lv' := [(3, .ref (q9)), (0, .ref (ad 1)), (1, .int (iZ (y1))), (2, .ref (ad 0))]) hx hb dL_isRight_19 rfl hl (by decide) rfl (fun ls hl => ?_)
      refine lv_iconst (v := iZ 1) hx hb dL_isRight_20 rfl ?_
      exact zr_iret hQ hx hb hr hlk dL_isRight_21 hK hP hD hS (by omega) (by omega) ⟨by omega, by omega⟩ (⟨G, rfl, Or.inr (Or.inl (⟨rfl, hc9, hC9, o0, ho0⟩)), fun _ _ => rfl⟩)
    · refine zh_c2 (E := "java/lang/IllegalStateException") (N1 := "java/lang/IndexOutOfBoundsException") hown htab (by decide) q_classLink_RL_19_java_lang_IndexOutOfBoundsExceptio hHC.2 (by decide) (by decide) q_classLink_RL_33_java_lang_IllegalStateException hX9.2.2.2 (by decide) hce hcv hcl ?_
      refine lv_astore_n (lv' := [(3, .ref (q9)), (0, .ref (ad 1)), (1, .int (iZ (y1))), (2, .ref (ad 0))]) hx hb dL_isRight_22 rfl hl (by decide) rfl (fun ls hl => ?_)
      refine lv_iconst (v := iZ 2) hx hb dL_isRight_23 rfl ?_
      exact zr_iret hQ hx hb hr hlk dL_isRight_24 hK hP hD hS (by omega) (by omega) ⟨by omega, by omega⟩ (⟨G, rfl, Or.inr (Or.inr (⟨rfl, hc9, hC9, o0, ho0⟩)), fun _ _ => rfl⟩)
  · obtain ⟨Gm, rfl, hn1, hn2, hn3, hCm, hom⟩ := hp
    have hz01 : z9 = 0 ∨ z9 = 1 := by rw [hn3]; split <;> omega
    have k4_1 : Gm (0) = aJ cJ (1) (o0) := (hom (0) (by omega)).trans (ho0)
    have hP : va_P D vwCl (pw NP ad Gm) H := hP
    have hD : va_D A (pw NP ad Gm) := hD
    refine zr_if_eq hx hb 14 hz9 dL_isRight_7 (by decide) (fun h_7 => ?_) (fun h_7 => ?_)
    · refine lv_lconst (v := lZ 0) hx hb dL_isRight_14 rfl ?_
      refine zr_last hx hb hK hP hD hS (0) 1 (pw_at (by omega) (k4_1)) rfl (0) (by omega) (by omega) (by omega) dL_isRight_15 (fun H locs hP hD hS => ?_)
      rw [pw_set] at hP hD
      obtain ⟨G_15, hg15⟩ : ∃ g : Nat → va_E, g = zu Gm (0) (aJ cJ (1) (zu (o0) (0) (0))) := ⟨_, rfl⟩
      have hP : va_P D vwCl (pw NP ad G_15) H := by rw [hg15]; exact hP
      have hD : va_D A (pw NP ad G_15) := by rw [hg15]; exact hD
      have ho15 : ∀ i8 : Nat, i8 ≠ 0 → G_15 i8 = Gm i8 := fun i8 hk => by rw [hg15]; exact zu_n _ _ hk
      have he15 : G_15 (0) = aJ cJ (1) (zu (o0) (0) (0)) := by rw [hg15]; exact zu_s _ _ _
      refine lv_goto (tgt := 25) hx hb dL_isRight_16 (by decide) ?_
      refine lv_iconst (v := iZ 0) hx hb dL_isRight_25 rfl ?_
      exact zr_iret hQ hx hb hr hlk dL_isRight_26 hK hP hD hS (by omega) (by omega) ⟨by omega, by omega⟩ (⟨G_15, rfl, Or.inl ⟨rfl, z9, hz9, hn1, hn2, hn3, hCm.at0 (fun i h1 _ => ho15 i h1), _, he15, (zu_s _ _ _).trans (by omega)⟩, fun i9 h9 => (ho15 i9 (by omega)).trans (hom i9 (by omega))⟩)
    · refine lv_lconst (v := lZ 1) hx hb dL_isRight_10 rfl ?_
      refine lv_goto (tgt := 15) hx hb dL_isRight_11 (by decide) ?_
      refine zr_last hx hb hK hP hD hS (0) 1 (pw_at (by omega) (k4_1)) rfl (0) (by omega) (by omega) (by omega) dL_isRight_15 (fun H locs hP hD hS => ?_)
      rw [pw_set] at hP hD
      obtain ⟨G_15, hg15⟩ : ∃ g : Nat → va_E, g = zu Gm (0) (aJ cJ (1) (zu (o0) (0) (1))) := ⟨_, rfl⟩
      have hP : va_P D vwCl (pw NP ad G_15) H := by rw [hg15]; exact hP
      have hD : va_D A (pw NP ad G_15) := by rw [hg15]; exact hD
      have ho15 : ∀ i8 : Nat, i8 ≠ 0 → G_15 i8 = Gm i8 := fun i8 hk => by rw [hg15]; exact zu_n _ _ hk
      have he15 : G_15 (0) = aJ cJ (1) (zu (o0) (0) (1)) := by rw [hg15]; exact zu_s _ _ _
      refine lv_goto (tgt := 25) hx hb dL_isRight_16 (by decide) ?_
      refine lv_iconst (v := iZ 0) hx hb dL_isRight_25 rfl ?_
      exact zr_iret hQ hx hb hr hlk dL_isRight_26 hK hP hD hS (by omega) (by omega) ⟨by omega, by omega⟩ (⟨G_15, rfl, Or.inl ⟨rfl, z9, hz9, hn1, hn2, hn3, hCm.at0 (fun i h1 _ => ho15 i h1), _, he15, (zu_s _ _ _).trans (by omega)⟩, fun i9 h9 => (ho15 i9 (by omega)).trans (hom i9 (by omega))⟩)
