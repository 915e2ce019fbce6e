
theorem md_D.keep {nn : Nat} {s : peS} {F Ln Sg PR G L1 S1 : Nat → Int} {sv rk ms : Int} (h : md_D nn s F Ln Sg PR sv rk ms) (hk : ∀ g : Nat, g < 90 → g < 85 → md_ef F Ln Sg G L1 S1 g) : md_D nn s G L1 S1 PR sv rk ms := ⟨fun j hj => (hk _ (by omega) (by omega)).f (h.1 j hj), (hk _ (by decide) (by decide)).f h.2.1, h.2.2⟩
theorem md_R.dn {V : Nat → Rat} {nn : Nat} {dn sv rk ms : Int} {F Ln Sg PR : Nat → Int} (h : md_R V nn dn sv rk ms F Ln Sg PR) : (dn = 0 ∨ dn = 1) ∧ (dn = 1 → (sv = 0 ∨ sv = 1)) ∧ (dn = 1 → 0 ≤ rk ∧ rk ≤ 6) ∧ (dn = 1 → md_D nn (pe V nn nn) F Ln Sg PR sv rk ms) := by
  obtain ⟨⟨h1, h2, h3⟩, h4, h5⟩ := h
  rcases h5 with q | ⟨q, w⟩
  · exact ⟨Or.inl q, fun x => by omega, fun x => by omega, fun x => by omega⟩
  · have hV := pe_ok h3 h1 h2 nn (Nat.le_refl nn)
    have hr := hV.1.2.1
    refine ⟨Or.inr q, fun _ => ?_, fun _ => ?_, fun _ => w⟩
    · rw [w.2.2.1]; exact pe_svk01 _ _ _ _
    · rw [w.2.2.2.1]; omega
theorem pe_p1 (x y : Rat) : x + ((1 : Int) : Rat) * y = x + y := by
  rw [show (((1 : Int)) : Rat) = 1 from rfl, Rat.one_mul]
set_option maxHeartbeats 4000000 in
set_option maxRecDepth 100000 in
/-- Model.thrown -/
theorem c_thrown (l : Launch) (D : va_G) (cI cJ cE cF cR : ClassId) (mo fg le sg tp bl pr rs nn : Nat) (dn sv rk tn ms th : Int) (hth : iR th) : Ci l D (zty cI cJ cE cF cR) yX11_thrown wsX11_thrown (zRm 0 0) 0 0 [.ref (mo)] [(mo, mo_ fg le sg tp bl pr rs (((nn : Nat) : Int)) (dn) (sv) (rk) (tn) (ms) (th))] (fun r w1 => w1 = [(mo, mo_ fg le sg tp bl pr rs (((nn : Nat) : Int)) (dn) (sv) (rk) (tn) (ms) (th))] ∧ r = th) := by
  unfold Ci
  refine zs (Qc := zQi D _ _) (cc := cX11_thrown) (maxL := 1) (ret := (some .int)) (by decide) rfl (Nat.le_of_ble_eq_true rfl) ?_
  intro zp ze s zm below meth zc ls A args Q hQ hx hb hr hts hown hlk hml hnm hN hA hK hP hD hS hl
  have q_f_RX11_40_LimbSolverModel_thrown_I := hts (.fieldLink RX11 40 "LimbSolverModel" "thrown" "I") (by decide +kernel)
  have hin11 : ∀ w ∈ wsX110, w ∈ wsX11_thrown := by decide +kernel
  have hl : lv_has ls 1 [(0, .ref (mo))] := hl
  refine lv_aload_n hx hb dX11_thrown_0 rfl (lv_at hl 0 rfl) ?_
  refine va_get (D := D) (ci := 11) (v := .int (iZ (th))) (C := RX11) (T := TX11) (N := 14) hx hb hts hin11 hown hK hP 0 rfl rfl 12 (by decide) q_f_RX11_40_LimbSolverModel_thrown_I (fun _ h9 => h9) rfl dX11_thrown_1 ?_
  exact zr_iret hQ hx hb hr hlk dX11_thrown_4 hK hP hD hS (by omega) (by omega) hth (⟨rfl, rfl⟩)

set_option maxHeartbeats 4000000 in
set_option maxRecDepth 100000 in
/-- Model.rank -/
theorem c_mrank (l : Launch) (D : va_G) (cI cJ cE cF cR : ClassId) (mo fg le sg tp bl pr rs nn : Nat) (dn sv rk tn ms th : Int) (F Ln Sg PR : Nat → Int) (V : Nat → Rat) (hR : md_R V nn dn sv rk ms F Ln Sg PR) : Ci l D (zty cI cJ cE cF cR) yX11_rank wsX11_rank (zRm 0 0) 0 0 [.ref (mo)] [(mo, mo_ fg le sg tp bl pr rs (((nn : Nat) : Int)) (dn) (sv) (rk) (tn) (ms) (th))] (fun r w1 => w1 = [(mo, mo_ fg le sg tp bl pr rs (((nn : Nat) : Int)) (dn) (sv) (rk) (tn) (ms) (0))] ∧ ((dn = 0 ∧ r = -1) ∨ (dn = 1 ∧ r = ((peR (pe V nn nn) : Nat) : Int)))) := by
  unfold Ci
  refine zs (Qc := zQi D _ _) (cc := cX11_rank) (maxL := 1) (ret := (some .int)) (by decide) rfl (Nat.le_of_ble_eq_true rfl) ?_
  intro zp ze s zm below meth zc ls A args Q hQ hx hb hr hts hown hlk hml hnm hN hA hK hP hD hS hl
  have q_f_RX11_40_LimbSolverModel_thrown_I := hts (.fieldLink RX11 40 "LimbSolverModel" "thrown" "I") (by decide +kernel)
  have hin11 : ∀ w ∈ wsX110, w ∈ wsX11_rank := by decide +kernel
  have q_f_RX11_109_LimbSolverModel_done_Z := hts (.fieldLink RX11 109 "LimbSolverModel" "done" "Z") (by decide +kernel)
  have q_f_RX11_136_LimbSolverModel_rank_I := hts (.fieldLink RX11 136 "LimbSolverModel" "rank" "I") (by decide +kernel)
  have hl : lv_has ls 1 [(0, .ref (mo))] := hl
  obtain ⟨⟨h1n, hn, hT⟩, hAA, _⟩ := id hR
  obtain ⟨hdn, hsv, hrk, hDn⟩ := hR.dn
  refine lv_aload_n hx hb dX11_rank_0 rfl (lv_at hl 0 rfl) ?_
  refine lv_iconst (v := iZ 0) hx hb dX11_rank_1 rfl ?_
  refine va_put (D := D) (ci := 11) (v := .int (iZ (0))) (ty := tyX11 12) (C := RX11) (T := TX11) (N := 14) hx hb hts hin11 tyX11 tyX11_ok nmX11 hown hK hP hD hS 0 rfl rfl 12 (by decide) q_f_RX11_40_LimbSolverModel_thrown_I (fun _ h9 => h9) rfl (tyX11_ok 12 (by decide)) rfl rfl (Nat.le_of_ble_eq_true rfl) dX11_rank_2 (fun H locs hP hD hS => ?_)
  have hP : va_P D vwCl [(mo, mo_ fg le sg tp bl pr rs (((nn : Nat) : Int)) (dn) (sv) (rk) (tn) (ms) (0))] H := hP
  have hD : va_D A [(mo, mo_ fg le sg tp bl pr rs (((nn : Nat) : Int)) (dn) (sv) (rk) (tn) (ms) (0))] := hD
  refine lv_aload_n hx hb dX11_rank_5 rfl (lv_at hl 0 rfl) ?_
  refine va_get (D := D) (ci := 11) (v := .int (iZ (dn))) (C := RX11) (T := TX11) (N := 14) hx hb hts hin11 hown hK hP 0 rfl rfl 6 (by decide) q_f_RX11_109_LimbSolverModel_done_Z (fun _ h9 => h9) rfl dX11_rank_6 ?_
  refine zr_if_eq hx hb 19 ⟨by omega, by omega⟩ dX11_rank_9 (by decide) (fun h_9 => ?_) (fun h_9 => ?_)
  · refine lv_iconst (v := iZ (-1)) hx hb dX11_rank_19 rfl ?_
    exact zr_iret hQ hx hb hr hlk dX11_rank_20 hK hP hD hS (by omega) (by omega) (by first | decide | exact ⟨by omega, by omega⟩) (⟨rfl, Or.inl ⟨by omega, rfl⟩⟩)
  · refine lv_aload_n hx hb dX11_rank_12 rfl (lv_at hl 0 rfl) ?_
    refine va_get (D := D) (ci := 11) (v := .int (iZ (rk))) (C := RX11) (T := TX11) (N := 14) hx hb hts hin11 hown hK hP 0 rfl rfl 8 (by decide) q_f_RX11_136_LimbSolverModel_rank_I (fun _ h9 => h9) rfl dX11_rank_13 ?_
    refine lv_goto (tgt := 20) hx hb dX11_rank_16 (by decide) ?_
    exact zr_iret hQ hx hb hr hlk dX11_rank_20 hK hP hD hS (by omega) (by omega) (by first | decide | exact ⟨by omega, by omega⟩) (⟨rfl, Or.inr ⟨by omega, (hDn (by omega)).2.2.2.1⟩⟩)

set_option maxHeartbeats 4000000 in
set_option maxRecDepth 100000 in
/-- Model.isSolvable -/
theorem c_misSolvable (l : Launch) (D : va_G) (cI cJ cE cF cR : ClassId) (mo fg le sg tp bl pr rs nn : Nat) (dn sv rk tn ms th : Int) (F Ln Sg PR : Nat → Int) (V : Nat → Rat) (hR : md_R V nn dn sv rk ms F Ln Sg PR) : Ci l D (zty cI cJ cE cF cR) yX11_isSolvable wsX11_isSolvable (zRm 0 0) 0 0 [.ref (mo)] [(mo, mo_ fg le sg tp bl pr rs (((nn : Nat) : Int)) (dn) (sv) (rk) (tn) (ms) (th))] (fun r w1 => ∃ tc : Int, w1 = [(mo, mo_ fg le sg tp bl pr rs (((nn : Nat) : Int)) (dn) (sv) (rk) (tn) (ms) (tc))] ∧ ((dn = 0 ∧ tc = 1) ∨ (dn = 1 ∧ tc = 0 ∧ r = pe_svk (peM (pe V nn nn)) nn (peR (pe V nn nn)) (nn - peR (pe V nn nn))))) := by
  unfold Ci
  refine zs (Qc := zQi D _ _) (cc := cX11_isSolvable) (maxL := 1) (ret := (some .boolean)) (by decide) rfl (Nat.le_of_ble_eq_true rfl) ?_
  intro zp ze s zm below meth zc ls A args Q hQ hx hb hr hts hown hlk hml hnm hN hA hK hP hD hS hl
  have q_f_RX11_109_LimbSolverModel_done_Z := hts (.fieldLink RX11 109 "LimbSolverModel" "done" "Z") (by decide +kernel)
  have hin11 : ∀ w ∈ wsX110, w ∈ wsX11_isSolvable := by decide +kernel
  have q_f_RX11_40_LimbSolverModel_thrown_I := hts (.fieldLink RX11 40 "LimbSolverModel" "thrown" "I") (by decide +kernel)
  have q_f_RX11_151_LimbSolverModel_solvable_Z := hts (.fieldLink RX11 151 "LimbSolverModel" "solvable" "Z") (by decide +kernel)
  have hl : lv_has ls 1 [(0, .ref (mo))] := hl
  obtain ⟨⟨h1n, hn, hT⟩, hAA, _⟩ := id hR
  obtain ⟨hdn, hsv, hrk, hDn⟩ := hR.dn
  refine lv_aload_n hx hb dX11_isSolvable_0 rfl (lv_at hl 0 rfl) ?_
  refine lv_aload_n hx hb dX11_isSolvable_1 rfl (lv_at hl 0 rfl) ?_
  refine va_get (D := D) (ci := 11) (v := .int (iZ (dn))) (C := RX11) (T := TX11) (N := 14) hx hb hts hin11 hown hK hP 0 rfl rfl 6 (by decide) q_f_RX11_109_LimbSolverModel_done_Z (fun _ h9 => h9) rfl dX11_isSolvable_2 ?_
  refine zr_if_eq hx hb 12 ⟨by omega, by omega⟩ dX11_isSolvable_5 (by decide) (fun h_5 => ?_) (fun h_5 => ?_)
  · refine lv_iconst (v := iZ 1) hx hb dX11_isSolvable_12 rfl ?_
    refine va_put (D := D) (ci := 11) (v := .int (iZ (1))) (ty := tyX11 12) (C := RX11) (T := TX11) (N := 14) hx hb hts hin11 tyX11 tyX11_ok nmX11 hown hK hP hD hS 0 rfl rfl 12 (by decide) q_f_RX11_40_LimbSolverModel_thrown_I (fun _ h9 => h9) rfl (tyX11_ok 12 (by decide)) rfl rfl (Nat.le_of_ble_eq_true rfl) dX11_isSolvable_13 (fun H locs hP hD hS => ?_)
    have hP : va_P D vwCl [(mo, mo_ fg le sg tp bl pr rs (((nn : Nat) : Int)) (dn) (sv) (rk) (tn) (ms) (1))] H := hP
    have hD : va_D A [(mo, mo_ fg le sg tp bl pr rs (((nn : Nat) : Int)) (dn) (sv) (rk) (tn) (ms) (1))] := hD
    refine lv_aload_n hx hb dX11_isSolvable_16 rfl (lv_at hl 0 rfl) ?_
    refine va_get (D := D) (ci := 11) (v := .int (iZ (dn))) (C := RX11) (T := TX11) (N := 14) hx hb hts hin11 hown hK hP 0 rfl rfl 6 (by decide) q_f_RX11_109_LimbSolverModel_done_Z (fun _ h9 => h9) rfl dX11_isSolvable_17 ?_
    refine zr_if_eq hx hb 34 ⟨by omega, by omega⟩ dX11_isSolvable_20 (by decide) (fun h_20 => ?_) (fun h_20 => ?_)
    · refine lv_iconst (v := iZ 0) hx hb dX11_isSolvable_34 rfl ?_
      exact zr_zret hQ hx hb hr hlk dX11_isSolvable_35 hK hP hD hS (by omega) (by omega) (by omega) (⟨1, rfl, Or.inl ⟨by omega, rfl⟩⟩)
    · exfalso; omega
  · refine lv_iconst (v := iZ 0) hx hb dX11_isSolvable_8 rfl ?_
    refine lv_goto (tgt := 13) hx hb dX11_isSolvable_9 (by decide) ?_
    refine va_put (D := D) (ci := 11) (v := .int (iZ (0))) (ty := tyX11 12) (C := RX11) (T := TX11) (N := 14) hx hb hts hin11 tyX11 tyX11_ok nmX11 hown hK hP hD hS 0 rfl rfl 12 (by decide) q_f_RX11_40_LimbSolverModel_thrown_I (fun _ h9 => h9) rfl (tyX11_ok 12 (by decide)) rfl rfl (Nat.le_of_ble_eq_true rfl) dX11_isSolvable_13 (fun H locs hP hD hS => ?_)
    have hP : va_P D vwCl [(mo, mo_ fg le sg tp bl pr rs (((nn : Nat) : Int)) (dn) (sv) (rk) (tn) (ms) (0))] H := hP
    have hD : va_D A [(mo, mo_ fg le sg tp bl pr rs (((nn : Nat) : Int)) (dn) (sv) (rk) (tn) (ms) (0))] := hD
    refine lv_aload_n hx hb dX11_isSolvable_16 rfl (lv_at hl 0 rfl) ?_
    refine va_get (D := D) (ci := 11) (v := .int (iZ (dn))) (C := RX11) (T := TX11) (N := 14) hx hb hts hin11 hown hK hP 0 rfl rfl 6 (by decide) q_f_RX11_109_LimbSolverModel_done_Z (fun _ h9 => h9) rfl dX11_isSolvable_17 ?_
    refine zr_if_eq hx hb 34 ⟨by omega, by omega⟩ dX11_isSolvable_20 (by decide) (fun h_20 => ?_) (fun h_20 => ?_)
    · exfalso; omega
    · refine lv_aload_n hx hb dX11_isSolvable_23 rfl (lv_at hl 0 rfl) ?_
      refine va_get (D := D) (ci := 11) (v := .int (iZ (sv))) (C := RX11) (T := TX11) (N := 14) hx hb hts hin11 hown hK hP 0 rfl rfl 7 (by decide) q_f_RX11_151_LimbSolverModel_solvable_Z (fun _ h9 => h9) rfl dX11_isSolvable_24 ?_
      refine zr_if_eq hx hb 34 ⟨by omega, by omega⟩ dX11_isSolvable_27 (by decide) (fun h_27 => ?_) (fun h_27 => ?_)
      · refine lv_iconst (v := iZ 0) hx hb dX11_isSolvable_34 rfl ?_
        exact zr_zret hQ hx hb hr hlk dX11_isSolvable_35 hK hP hD hS (by omega) (by omega) (by omega) (⟨0, rfl, Or.inr ⟨by omega, rfl, by rw [← (hDn (by omega)).2.2.1]; omega⟩⟩)
      · refine lv_iconst (v := iZ 1) hx hb dX11_isSolvable_30 rfl ?_
        refine lv_goto (tgt := 35) hx hb dX11_isSolvable_31 (by decide) ?_
        exact zr_zret hQ hx hb hr hlk dX11_isSolvable_35 hK hP hD hS (by omega) (by omega) (by omega) (⟨0, rfl, Or.inr ⟨by omega, rfl, by rw [← (hDn (by omega)).2.2.1]; omega⟩⟩)

set_option maxHeartbeats 4000000 in
set_option maxRecDepth 100000 in
/-- Model.most -/
theorem c_mmost (l : Launch) (D : va_G) (cI cJ cE cF cR : ClassId) (mo fg le sg tp bl pr rs nn : Nat) (dn sv rk tn ms th : Int) (F Ln Sg PR : Nat → Int) (V : Nat → Rat) (hR : md_R V nn dn sv rk ms F Ln Sg PR) (hmsb : dn = 1 → 0 ≤ ms ∧ ms ≤ 2147483647) : Ci l D (zty cI cJ cE cF cR) yX11_most wsX11_most (zRm 0 0) 0 0 [.ref (mo)] [(mo, mo_ fg le sg tp bl pr rs (((nn : Nat) : Int)) (dn) (sv) (rk) (tn) (ms) (th))] (fun r w1 => ∃ tc : Int, w1 = [(mo, mo_ fg le sg tp bl pr rs (((nn : Nat) : Int)) (dn) (sv) (rk) (tn) (ms) (tc))] ∧ ((dn = 0 ∧ tc = 1) ∨ (dn = 1 ∧ tc = 0 ∧ r = ((peH (pe V nn nn) : Nat) : Int)))) := by
  unfold Ci
  refine zs (Qc := zQi D _ _) (cc := cX11_most) (maxL := 1) (ret := (some .int)) (by decide) rfl (Nat.le_of_ble_eq_true rfl) ?_
  intro zp ze s zm below meth zc ls A args Q hQ hx hb hr hts hown hlk hml hnm hN hA hK hP hD hS hl
  have q_f_RX11_109_LimbSolverModel_done_Z := hts (.fieldLink RX11 109 "LimbSolverModel" "done" "Z") (by decide +kernel)
  have hin11 : ∀ w ∈ wsX110, w ∈ wsX11_most := by decide +kernel
  have q_f_RX11_40_LimbSolverModel_thrown_I := hts (.fieldLink RX11 40 "LimbSolverModel" "thrown" "I") (by decide +kernel)
  have q_f_RX11_142_LimbSolverModel_most_I := hts (.fieldLink RX11 142 "LimbSolverModel" "most" "I") (by decide +kernel)
  have hl : lv_has ls 1 [(0, .ref (mo))] := hl
  obtain ⟨⟨h1n, hn, hT⟩, hAA, _⟩ := id hR
  obtain ⟨hdn, hsv, hrk, hDn⟩ := hR.dn
  refine lv_aload_n hx hb dX11_most_0 rfl (lv_at hl 0 rfl) ?_
  refine lv_aload_n hx hb dX11_most_1 rfl (lv_at hl 0 rfl) ?_
  refine va_get (D := D) (ci := 11) (v := .int (iZ (dn))) (C := RX11) (T := TX11) (N := 14) hx hb hts hin11 hown hK hP 0 rfl rfl 6 (by decide) q_f_RX11_109_LimbSolverModel_done_Z (fun _ h9 => h9) rfl dX11_most_2 ?_
  refine zr_if_eq hx hb 12 ⟨by omega, by omega⟩ dX11_most_5 (by decide) (fun h_5 => ?_) (fun h_5 => ?_)
  · refine lv_iconst (v := iZ 1) hx hb dX11_most_12 rfl ?_
    refine va_put (D := D) (ci := 11) (v := .int (iZ (1))) (ty := tyX11 12) (C := RX11) (T := TX11) (N := 14) hx hb hts hin11 tyX11 tyX11_ok nmX11 hown hK hP hD hS 0 rfl rfl 12 (by decide) q_f_RX11_40_LimbSolverModel_thrown_I (fun _ h9 => h9) rfl (tyX11_ok 12 (by decide)) rfl rfl (Nat.le_of_ble_eq_true rfl) dX11_most_13 (fun H locs hP hD hS => ?_)
    have hP : va_P D vwCl [(mo, mo_ fg le sg tp bl pr rs (((nn : Nat) : Int)) (dn) (sv) (rk) (tn) (ms) (1))] H := hP
    have hD : va_D A [(mo, mo_ fg le sg tp bl pr rs (((nn : Nat) : Int)) (dn) (sv) (rk) (tn) (ms) (1))] := hD
    refine lv_aload_n hx hb dX11_most_16 rfl (lv_at hl 0 rfl) ?_
    refine va_get (D := D) (ci := 11) (v := .int (iZ (dn))) (C := RX11) (T := TX11) (N := 14) hx hb hts hin11 hown hK hP 0 rfl rfl 6 (by decide) q_f_RX11_109_LimbSolverModel_done_Z (fun _ h9 => h9) rfl dX11_most_17 ?_
    refine zr_if_eq hx hb 30 ⟨by omega, by omega⟩ dX11_most_20 (by decide) (fun h_20 => ?_) (fun h_20 => ?_)
    · refine lv_iconst (v := iZ 0) hx hb dX11_most_30 rfl ?_
      exact zr_iret hQ hx hb hr hlk dX11_most_31 hK hP hD hS (by omega) (by omega) (by first | decide | (have q := hmsb (by omega); exact ⟨by omega, by omega⟩)) (⟨1, rfl, Or.inl ⟨by omega, rfl⟩⟩)
    · exfalso; omega
  · refine lv_iconst (v := iZ 0) hx hb dX11_most_8 rfl ?_
    refine lv_goto (tgt := 13) hx hb dX11_most_9 (by decide) ?_
    refine va_put (D := D) (ci := 11) (v := .int (iZ (0))) (ty := tyX11 12) (C := RX11) (T := TX11) (N := 14) hx hb hts hin11 tyX11 tyX11_ok nmX11 hown hK hP hD hS 0 rfl rfl 12 (by decide) q_f_RX11_40_LimbSolverModel_thrown_I (fun _ h9 => h9) rfl (tyX11_ok 12 (by decide)) rfl rfl (Nat.le_of_ble_eq_true rfl) dX11_most_13 (fun H locs hP hD hS => ?_)
    have hP : va_P D vwCl [(mo, mo_ fg le sg tp bl pr rs (((nn : Nat) : Int)) (dn) (sv) (rk) (tn) (ms) (0))] H := hP
    have hD : va_D A [(mo, mo_ fg le sg tp bl pr rs (((nn : Nat) : Int)) (dn) (sv) (rk) (tn) (ms) (0))] := hD
    refine lv_aload_n hx hb dX11_most_16 rfl (lv_at hl 0 rfl) ?_
    refine va_get (D := D) (ci := 11) (v := .int (iZ (dn))) (C := RX11) (T := TX11) (N := 14) hx hb hts hin11 hown hK hP 0 rfl rfl 6 (by decide) q_f_RX11_109_LimbSolverModel_done_Z (fun _ h9 => h9) rfl dX11_most_17 ?_
    refine zr_if_eq hx hb 30 ⟨by omega, by omega⟩ dX11_most_20 (by decide) (fun h_20 => ?_) (fun h_20 => ?_)
    · exfalso; omega
    · refine lv_aload_n hx hb dX11_most_23 rfl (lv_at hl 0 rfl) ?_
      refine va_get (D := D) (ci := 11) (v := .int (iZ (ms))) (C := RX11) (T := TX11) (N := 14) hx hb hts hin11 hown hK hP 0 rfl rfl 10 (by decide) q_f_RX11_142_LimbSolverModel_most_I (fun _ h9 => h9) rfl dX11_most_24 ?_
      refine lv_goto (tgt := 31) hx hb dX11_most_27 (by decide) ?_
      exact zr_iret hQ hx hb hr hlk dX11_most_31 hK hP hD hS (by omega) (by omega) (by first | decide | (have q := hmsb (by omega); exact ⟨by omega, by omega⟩)) (⟨0, rfl, Or.inr ⟨by omega, rfl, (hDn (by omega)).2.2.2.2.1⟩⟩)

set_option maxHeartbeats 4000000 in
set_option maxRecDepth 100000 in
/-- Model.noColumn -/
theorem c_noColumn (l : Launch) (D : va_G) (cI cJ cE cF cR : ClassId) (mo fg le sg tp bl pr rs nn : Nat) (dn sv rk tn ms th : Int) (y1 : Int) (hy1 : iR y1) (hn : nn ≤ 6) : Ci l D (zty cI cJ cE cF cR) yX11_noColumn wsX11_noColumn (zRm 0 0) 0 0 [.ref (mo), .int (iZ (y1))] [(mo, mo_ fg le sg tp bl pr rs (((nn : Nat) : Int)) (dn) (sv) (rk) (tn) (ms) (th))] (fun r w1 => w1 = [(mo, mo_ fg le sg tp bl pr rs (((nn : Nat) : Int)) (dn) (sv) (rk) (tn) (ms) (th))] ∧ (((y1 < 0 ∨ (nn : Int) ≤ y1) ∧ r = 1) ∨ (¬ (y1 < 0 ∨ (nn : Int) ≤ y1) ∧ r = 0))) := by
  unfold Ci
  refine zs (Qc := zQi D _ _) (cc := cX11_noColumn) (maxL := 2) (ret := (some .boolean)) (by decide) rfl (Nat.le_of_ble_eq_true rfl) ?_
  intro zp ze s zm below meth zc ls A args Q hQ hx hb hr hts hown hlk hml hnm hN hA hK hP hD hS hl
  have q_f_RX11_26_LimbSolverModel_n_I := hts (.fieldLink RX11 26 "LimbSolverModel" "n" "I") (by decide +kernel)
  have hin11 : ∀ w ∈ wsX110, w ∈ wsX11_noColumn := by decide +kernel
  have hl : lv_has ls 2 [(0, .ref (mo)), (1, .int (iZ (y1)))] := hl
  refine lv_iload_n hx hb dX11_noColumn_0 rfl (lv_at hl 1 rfl) ?_
  refine zr_if_lt hx hb 12 hy1 dX11_noColumn_1 (by decide) (fun h_1 => ?_) (fun h_1 => ?_)
  · refine lv_iconst (v := iZ 1) hx hb dX11_noColumn_12 rfl ?_
    refine lv_goto (tgt := 17) hx hb dX11_noColumn_13 (by decide) ?_
    exact zr_zret hQ hx hb hr hlk dX11_noColumn_17 hK hP hD hS (by omega) (by omega) (by omega) (⟨rfl, Or.inl ⟨by omega, rfl⟩⟩)
  · refine lv_iload_n hx hb dX11_noColumn_4 rfl (lv_at hl 1 rfl) ?_
    refine lv_aload_n hx hb dX11_noColumn_5 rfl (lv_at hl 0 rfl) ?_
    refine va_get (D := D) (ci := 11) (v := .int (iZ (((nn : Nat) : Int)))) (C := RX11) (T := TX11) (N := 14) hx hb hts hin11 hown hK hP 0 rfl rfl 5 (by decide) q_f_RX11_26_LimbSolverModel_n_I (fun _ h9 => h9) rfl dX11_noColumn_6 ?_
    refine zr_icmp_lt hx hb 16 hy1 ⟨by omega, by omega⟩ dX11_noColumn_9 (by decide) (fun h_9 => ?_) (fun h_9 => ?_)
    · refine lv_iconst (v := iZ 0) hx hb dX11_noColumn_16 rfl ?_
      exact zr_zret hQ hx hb hr hlk dX11_noColumn_17 hK hP hD hS (by omega) (by omega) (by omega) (⟨rfl, Or.inr ⟨by omega, rfl⟩⟩)
    · refine lv_iconst (v := iZ 1) hx hb dX11_noColumn_12 rfl ?_
      refine lv_goto (tgt := 17) hx hb dX11_noColumn_13 (by decide) ?_
      exact zr_zret hQ hx hb hr hlk dX11_noColumn_17 hK hP hD hS (by omega) (by omega) (by omega) (⟨rfl, Or.inl ⟨by omega, rfl⟩⟩)

set_option maxHeartbeats 4000000 in
set_option maxRecDepth 100000 in
/-- Model.noWhich -/
theorem c_noWhich (l : Launch) (D : va_G) (cI cJ cE cF cR : ClassId) (y2 : Int) (hy2 : iR y2) : Ci l D (zty cI cJ cE cF cR) yX11_noWhich wsX11_noWhich (zRm 0 0) 0 0 [.int (iZ (y2))] [] (fun r w1 => w1 = [] ∧ (((y2 < 0 ∨ 2 < y2) ∧ r = 1) ∨ (¬ (y2 < 0 ∨ 2 < y2) ∧ r = 0))) := by
  unfold Ci
  refine zs (Qc := zQi D _ _) (cc := cX11_noWhich) (maxL := 1) (ret := (some .boolean)) (by decide) rfl (Nat.le_of_ble_eq_true rfl) ?_
  intro zp ze s zm below meth zc ls A args Q hQ hx hb hr hts hown hlk hml hnm hN hA hK hP hD hS hl
  have hl : lv_has ls 1 [(0, .int (iZ (y2)))] := hl
  refine lv_iload_n hx hb dX11_noWhich_0 rfl (lv_at hl 0 rfl) ?_
  refine zr_if_lt hx hb 9 hy2 dX11_noWhich_1 (by decide) (fun h_1 => ?_) (fun h_1 => ?_)
  · refine lv_iconst (v := iZ 1) hx hb dX11_noWhich_9 rfl ?_
    refine lv_goto (tgt := 14) hx hb dX11_noWhich_10 (by decide) ?_
    exact zr_zret hQ hx hb hr hlk dX11_noWhich_14 hK hP hD hS (by omega) (by omega) (by omega) (⟨rfl, Or.inl ⟨by omega, rfl⟩⟩)
  · refine lv_iload_n hx hb dX11_noWhich_4 rfl (lv_at hl 0 rfl) ?_
    refine lv_iconst (v := iZ 2) hx hb dX11_noWhich_5 rfl ?_
    refine zr_icmp_le hx hb 13 hy2 (by decide) dX11_noWhich_6 (by decide) (fun h_6 => ?_) (fun h_6 => ?_)
    · refine lv_iconst (v := iZ 0) hx hb dX11_noWhich_13 rfl ?_
      exact zr_zret hQ hx hb hr hlk dX11_noWhich_14 hK hP hD hS (by omega) (by omega) (by omega) (⟨rfl, Or.inr ⟨by omega, rfl⟩⟩)
    · refine lv_iconst (v := iZ 1) hx hb dX11_noWhich_9 rfl ?_
      refine lv_goto (tgt := 14) hx hb dX11_noWhich_10 (by decide) ?_
      exact zr_zret hQ hx hb hr hlk dX11_noWhich_14 hK hP hD hS (by omega) (by omega) (by omega) (⟨rfl, Or.inl ⟨by omega, rfl⟩⟩)

set_option maxHeartbeats 4000000 in
set_option maxRecDepth 100000 in
/-- Model.noCell -/
theorem c_noCell (l : Launch) (D : va_G) (cI cJ cE cF cR : ClassId) (mo fg le sg tp bl pr rs nn : Nat) (dn sv rk tn ms th : Int) (y1 y2 : Int) (hy1 : iR y1) (hy2 : iR y2) (hn : nn ≤ 6) : Ci l D (zty cI cJ cE cF cR) yX11_noCell wsX11_noCell (zRm 0 0) 0 0 [.ref (mo), .int (iZ (y1)), .int (iZ (y2))] [(mo, mo_ fg le sg tp bl pr rs (((nn : Nat) : Int)) (dn) (sv) (rk) (tn) (ms) (th))] (fun r w1 => w1 = [(mo, mo_ fg le sg tp bl pr rs (((nn : Nat) : Int)) (dn) (sv) (rk) (tn) (ms) (th))] ∧ (((y1 < 0 ∨ (nn : Int) ≤ y1 ∨ y2 < 0 ∨ (nn : Int) < y2) ∧ r = 1) ∨ (¬ (y1 < 0 ∨ (nn : Int) ≤ y1 ∨ y2 < 0 ∨ (nn : Int) < y2) ∧ r = 0))) := by
  unfold Ci
  refine zs (Qc := zQi D _ _) (cc := cX11_noCell) (maxL := 3) (ret := (some .boolean)) (by decide) rfl (Nat.le_of_ble_eq_true rfl) ?_
  intro zp ze s zm below meth zc ls A args Q hQ hx hb hr hts hown hlk hml hnm hN hA hK hP hD hS hl
  have q_f_RX11_26_LimbSolverModel_n_I := hts (.fieldLink RX11 26 "LimbSolverModel" "n" "I") (by decide +kernel)
  have hin11 : ∀ w ∈ wsX110, w ∈ wsX11_noCell := by decide +kernel
  have hl : lv_has ls 3 [(0, .ref (mo)), (1, .int (iZ (y1))), (2, .int (iZ (y2)))] := hl
  refine lv_iload_n hx hb dX11_noCell_0 rfl (lv_at hl 1 rfl) ?_
  refine zr_if_lt hx hb 24 hy1 dX11_noCell_1 (by decide) (fun h_1 => ?_) (fun h_1 => ?_)
  · refine lv_iconst (v := iZ 1) hx hb dX11_noCell_24 rfl ?_
    refine lv_goto (tgt := 29) hx hb dX11_noCell_25 (by decide) ?_
    exact zr_zret hQ hx hb hr hlk dX11_noCell_29 hK hP hD hS (by omega) (by omega) (by omega) (⟨rfl, Or.inl ⟨by omega, rfl⟩⟩)
  · refine lv_iload_n hx hb dX11_noCell_4 rfl (lv_at hl 1 rfl) ?_
    refine lv_aload_n hx hb dX11_noCell_5 rfl (lv_at hl 0 rfl) ?_
    refine va_get (D := D) (ci := 11) (v := .int (iZ (((nn : Nat) : Int)))) (C := RX11) (T := TX11) (N := 14) hx hb hts hin11 hown hK hP 0 rfl rfl 5 (by decide) q_f_RX11_26_LimbSolverModel_n_I (fun _ h9 => h9) rfl dX11_noCell_6 ?_
    refine zr_icmp_ge hx hb 24 hy1 ⟨by omega, by omega⟩ dX11_noCell_9 (by decide) (fun h_9 => ?_) (fun h_9 => ?_)
    · refine lv_iconst (v := iZ 1) hx hb dX11_noCell_24 rfl ?_
      refine lv_goto (tgt := 29) hx hb dX11_noCell_25 (by decide) ?_
      exact zr_zret hQ hx hb hr hlk dX11_noCell_29 hK hP hD hS (by omega) (by omega) (by omega) (⟨rfl, Or.inl ⟨by omega, rfl⟩⟩)
    · refine lv_iload_n hx hb dX11_noCell_12 rfl (lv_at hl 2 rfl) ?_
      refine zr_if_lt hx hb 24 hy2 dX11_noCell_13 (by decide) (fun h_13 => ?_) (fun h_13 => ?_)
      · refine lv_iconst (v := iZ 1) hx hb dX11_noCell_24 rfl ?_
        refine lv_goto (tgt := 29) hx hb dX11_noCell_25 (by decide) ?_
        exact zr_zret hQ hx hb hr hlk dX11_noCell_29 hK hP hD hS (by omega) (by omega) (by omega) (⟨rfl, Or.inl ⟨by omega, rfl⟩⟩)
      · refine lv_iload_n hx hb dX11_noCell_16 rfl (lv_at hl 2 rfl) ?_
        refine lv_aload_n hx hb dX11_noCell_17 rfl (lv_at hl 0 rfl) ?_
        refine va_get (D := D) (ci := 11) (v := .int (iZ (((nn : Nat) : Int)))) (C := RX11) (T := TX11) (N := 14) hx hb hts hin11 hown hK hP 0 rfl rfl 5 (by decide) q_f_RX11_26_LimbSolverModel_n_I (fun _ h9 => h9) rfl dX11_noCell_18 ?_
        refine zr_icmp_le hx hb 28 hy2 ⟨by omega, by omega⟩ dX11_noCell_21 (by decide) (fun h_21 => ?_) (fun h_21 => ?_)
        · refine lv_iconst (v := iZ 0) hx hb dX11_noCell_28 rfl ?_
          exact zr_zret hQ hx hb hr hlk dX11_noCell_29 hK hP hD hS (by omega) (by omega) (by omega) (⟨rfl, Or.inr ⟨by omega, rfl⟩⟩)
        · refine lv_iconst (v := iZ 1) hx hb dX11_noCell_24 rfl ?_
          refine lv_goto (tgt := 29) hx hb dX11_noCell_25 (by decide) ?_
          exact zr_zret hQ hx hb hr hlk dX11_noCell_29 hK hP hD hS (by omega) (by omega) (by omega) (⟨rfl, Or.inl ⟨by omega, rfl⟩⟩)

set_option maxHeartbeats 4000000 in
set_option maxRecDepth 100000 in
/-- Model.pivot -/
theorem c_mpivot (l : Launch) (D : va_G) (cI cJ cE cF cR : ClassId) (mo fg le sg tp bl pr rs nn : Nat) (dn sv rk tn ms th : Int) (y1 : Int) (F Ln Sg PR : Nat → Int) (V : Nat → Rat) (hR : md_R V nn dn sv rk ms F Ln Sg PR) (hy1 : iR y1) : Ci l D (zty cI cJ cE cF cR) yX11_pivot wsX11_pivot (zRm 1 40) 0 0 [.ref (mo), .int (iZ (y1))] [(mo, mo_ fg le sg tp bl pr rs (((nn : Nat) : Int)) (dn) (sv) (rk) (tn) (ms) (th)), (pr, aI cI (6) (PR))] (fun r w1 => ∃ tc : Int, w1 = [(mo, mo_ fg le sg tp bl pr rs (((nn : Nat) : Int)) (dn) (sv) (rk) (tn) (ms) (tc)), (pr, aI cI (6) (PR))] ∧ (((y1 < 0 ∨ (nn : Int) ≤ y1) ∧ tc = 1) ∨ (¬ (y1 < 0 ∨ (nn : Int) ≤ y1) ∧ dn = 0 ∧ tc = 2) ∨ (¬ (y1 < 0 ∨ (nn : Int) ≤ y1) ∧ dn = 1 ∧ tc = 0 ∧ r = peP (pe V nn nn) y1.toNat))) := by
  unfold Ci
  refine zs (Qc := zQi D _ _) (cc := cX11_pivot) (maxL := 2) (ret := (some .int)) (by decide) rfl (Nat.le_of_ble_eq_true rfl) ?_
  intro zp ze s zm below meth zc ls A args Q hQ hx hb hr hts hown hlk hml hnm hN hA hK hP hD hS hl
  have q_f_RX11_109_LimbSolverModel_done_Z := hts (.fieldLink RX11 109 "LimbSolverModel" "done" "Z") (by decide +kernel)
  have hin11 : ∀ w ∈ wsX110, w ∈ wsX11_pivot := by decide +kernel
  have q_f_RX11_40_LimbSolverModel_thrown_I := hts (.fieldLink RX11 40 "LimbSolverModel" "thrown" "I") (by decide +kernel)
  have q_f_RX11_30_LimbSolverModel_pivotRow_I := hts (.fieldLink RX11 30 "LimbSolverModel" "pivotRow" "[I") (by decide +kernel)
  have hl : lv_has ls 2 [(0, .ref (mo)), (1, .int (iZ (y1)))] := hl
  obtain ⟨⟨h1n, hn, hT⟩, hAA, _⟩ := id hR
  obtain ⟨hdn, hsv, hrk, hDn⟩ := hR.dn
  have hy11 := hy1.1
  have hy12 := hy1.2
  refine lv_aload_n hx hb dX11_pivot_0 rfl (lv_at hl 0 rfl) ?_
  refine lv_aload_n hx hb dX11_pivot_1 rfl (lv_at hl 0 rfl) ?_
  refine lv_iload_n hx hb dX11_pivot_2 rfl (lv_at hl 1 rfl) ?_
  refine zc_Vi (As := [.int (iZ (y1))]) (rest := [.ref (mo)]) (wr := [(pr, aI cI (6) (PR))]) ⟨hx, hb, hml, hown, hts⟩ (c_noColumn l D cI cJ cE cF cR mo fg le sg tp bl pr rs nn dn sv rk tn ms th y1 hy1 hn) (cwV 1 hts gX11_pivot_X11_noColumn rfl rfl rfl (by decide +kernel) ⟨Nat.le_of_ble_eq_true rfl, Nat.le_of_ble_eq_true rfl⟩) hN hK hP hD hS hA [0] [1] rfl rfl (by decide) (by decide) (by decide) (q0 := 0) (ci := 11) rfl rfl rfl rfl hl.1 (Nat.le_of_ble_eq_true rfl) dX11_pivot_3 ⟨by decide, by decide⟩ (fun q3 w1 H locs hz3 hp hP hD hS => ?_)
  obtain ⟨hw9, hq3⟩ := hp
  subst hw9
  have hP := hP.sub (ws' := [(mo, mo_ fg le sg tp bl pr rs (((nn : Nat) : Int)) (dn) (sv) (rk) (tn) (ms) (th)), (pr, aI cI (6) (PR))]) [1, 0] rfl
  have hD := hD.sub (ws' := [(mo, mo_ fg le sg tp bl pr rs (((nn : Nat) : Int)) (dn) (sv) (rk) (tn) (ms) (th)), (pr, aI cI (6) (PR))]) [1, 0] (by decide) rfl
  refine zr_if_eq hx hb 13 ⟨by omega, by omega⟩ dX11_pivot_6 (by decide) (fun h_6 => ?_) (fun h_6 => ?_)
  · refine lv_aload_n hx hb dX11_pivot_13 rfl (lv_at hl 0 rfl) ?_
    refine va_get (D := D) (ci := 11) (v := .int (iZ (dn))) (C := RX11) (T := TX11) (N := 14) hx hb hts hin11 hown hK hP 0 rfl rfl 6 (by decide) q_f_RX11_109_LimbSolverModel_done_Z (fun _ h9 => h9) rfl dX11_pivot_14 ?_
    refine zr_if_ne hx hb 24 ⟨by omega, by omega⟩ dX11_pivot_17 (by decide) (fun h_17 => ?_) (fun h_17 => ?_)
    · refine lv_iconst (v := iZ 0) hx hb dX11_pivot_24 rfl ?_
      refine va_put (D := D) (ci := 11) (v := .int (iZ (0))) (ty := tyX11 12) (C := RX11) (T := TX11) (N := 14) hx hb hts hin11 tyX11 tyX11_ok nmX11 hown hK hP hD hS 0 rfl rfl 12 (by decide) q_f_RX11_40_LimbSolverModel_thrown_I (fun _ h9 => h9) rfl (tyX11_ok 12 (by decide)) rfl rfl (Nat.le_of_ble_eq_true rfl) dX11_pivot_25 (fun H locs hP hD hS => ?_)
      have hP : va_P D vwCl [(mo, mo_ fg le sg tp bl pr rs (((nn : Nat) : Int)) (dn) (sv) (rk) (tn) (ms) (0)), (pr, aI cI (6) (PR))] H := hP
      have hD : va_D A [(mo, mo_ fg le sg tp bl pr rs (((nn : Nat) : Int)) (dn) (sv) (rk) (tn) (ms) (0)), (pr, aI cI (6) (PR))] := hD
      refine lv_aload_n hx hb dX11_pivot_28 rfl (lv_at hl 0 rfl) ?_
      refine va_get (D := D) (ci := 11) (v := .int (iZ (0))) (C := RX11) (T := TX11) (N := 14) hx hb hts hin11 hown hK hP 0 rfl rfl 12 (by decide) q_f_RX11_40_LimbSolverModel_thrown_I (fun _ h9 => h9) rfl dX11_pivot_29 ?_
      refine zr_if_le hx hb 39 ⟨by omega, by omega⟩ dX11_pivot_32 (by decide) (fun h_32 => ?_) (fun h_32 => ?_)
      · refine lv_aload_n hx hb dX11_pivot_39 rfl (lv_at hl 0 rfl) ?_
        refine va_get (D := D) (ci := 11) (v := .ref (pr)) (C := RX11) (T := TX11) (N := 14) hx hb hts hin11 hown hK hP 0 rfl rfl 11 (by decide) q_f_RX11_30_LimbSolverModel_pivotRow_I (fun _ h9 => h9) rfl dX11_pivot_40 ?_
        refine lv_iload_n hx hb dX11_pivot_43 rfl (lv_at hl 1 rfl) ?_
        refine zr_iald hx hb hK hP 1 0 rfl rfl (y1.toNat) (by omega) (by omega) (by omega) dX11_pivot_44 ?_
        refine zr_eqi (peP (pe V nn nn) y1.toNat) ((hDn (by omega)).2.2.2.2.2 _ (by omega)) ?_
        exact zr_iret hQ hx hb hr hlk dX11_pivot_45 hK hP hD hS (by omega) (by omega) (by first | decide | (rcases pe_x_b hT hn (pe_ok hT h1n hn nn (Nat.le_refl nn)) (j := y1.toNat) (by omega) with ⟨q1, _⟩ | ⟨i, q0, q1, _⟩ <;> rw [q1] <;> first | decide | exact ⟨by omega, by omega⟩)) (⟨0, rfl, Or.inr (Or.inr ⟨by omega, by omega, rfl, rfl⟩)⟩)
      · exfalso; omega
    · refine lv_iconst (v := iZ 2) hx hb dX11_pivot_20 rfl ?_
      refine lv_goto (tgt := 25) hx hb dX11_pivot_21 (by decide) ?_
      refine va_put (D := D) (ci := 11) (v := .int (iZ (2))) (ty := tyX11 12) (C := RX11) (T := TX11) (N := 14) hx hb hts hin11 tyX11 tyX11_ok nmX11 hown hK hP hD hS 0 rfl rfl 12 (by decide) q_f_RX11_40_LimbSolverModel_thrown_I (fun _ h9 => h9) rfl (tyX11_ok 12 (by decide)) rfl rfl (Nat.le_of_ble_eq_true rfl) dX11_pivot_25 (fun H locs hP hD hS => ?_)
      have hP : va_P D vwCl [(mo, mo_ fg le sg tp bl pr rs (((nn : Nat) : Int)) (dn) (sv) (rk) (tn) (ms) (2)), (pr, aI cI (6) (PR))] H := hP
      have hD : va_D A [(mo, mo_ fg le sg tp bl pr rs (((nn : Nat) : Int)) (dn) (sv) (rk) (tn) (ms) (2)), (pr, aI cI (6) (PR))] := hD
      refine lv_aload_n hx hb dX11_pivot_28 rfl (lv_at hl 0 rfl) ?_
      refine va_get (D := D) (ci := 11) (v := .int (iZ (2))) (C := RX11) (T := TX11) (N := 14) hx hb hts hin11 hown hK hP 0 rfl rfl 12 (by decide) q_f_RX11_40_LimbSolverModel_thrown_I (fun _ h9 => h9) rfl dX11_pivot_29 ?_
      refine zr_if_le hx hb 39 ⟨by omega, by omega⟩ dX11_pivot_32 (by decide) (fun h_32 => ?_) (fun h_32 => ?_)
      · exfalso; omega
      · refine lv_iconst (v := iZ 0) hx hb dX11_pivot_35 rfl ?_
        refine lv_goto (tgt := 45) hx hb dX11_pivot_36 (by decide) ?_
        exact zr_iret hQ hx hb hr hlk dX11_pivot_45 hK hP hD hS (by omega) (by omega) (by first | decide | (rcases pe_x_b hT hn (pe_ok hT h1n hn nn (Nat.le_refl nn)) (j := y1.toNat) (by omega) with ⟨q1, _⟩ | ⟨i, q0, q1, _⟩ <;> rw [q1] <;> first | decide | exact ⟨by omega, by omega⟩)) (⟨2, rfl, Or.inr (Or.inl ⟨by omega, by omega, rfl⟩)⟩)
  · refine lv_iconst (v := iZ 1) hx hb dX11_pivot_9 rfl ?_
    refine lv_goto (tgt := 25) hx hb dX11_pivot_10 (by decide) ?_
    refine va_put (D := D) (ci := 11) (v := .int (iZ (1))) (ty := tyX11 12) (C := RX11) (T := TX11) (N := 14) hx hb hts hin11 tyX11 tyX11_ok nmX11 hown hK hP hD hS 0 rfl rfl 12 (by decide) q_f_RX11_40_LimbSolverModel_thrown_I (fun _ h9 => h9) rfl (tyX11_ok 12 (by decide)) rfl rfl (Nat.le_of_ble_eq_true rfl) dX11_pivot_25 (fun H locs hP hD hS => ?_)
    have hP : va_P D vwCl [(mo, mo_ fg le sg tp bl pr rs (((nn : Nat) : Int)) (dn) (sv) (rk) (tn) (ms) (1)), (pr, aI cI (6) (PR))] H := hP
    have hD : va_D A [(mo, mo_ fg le sg tp bl pr rs (((nn : Nat) : Int)) (dn) (sv) (rk) (tn) (ms) (1)), (pr, aI cI (6) (PR))] := hD
    refine lv_aload_n hx hb dX11_pivot_28 rfl (lv_at hl 0 rfl) ?_
    refine va_get (D := D) (ci := 11) (v := .int (iZ (1))) (C := RX11) (T := TX11) (N := 14) hx hb hts hin11 hown hK hP 0 rfl rfl 12 (by decide) q_f_RX11_40_LimbSolverModel_thrown_I (fun _ h9 => h9) rfl dX11_pivot_29 ?_
    refine zr_if_le hx hb 39 ⟨by omega, by omega⟩ dX11_pivot_32 (by decide) (fun h_32 => ?_) (fun h_32 => ?_)
    · exfalso; omega
    · refine lv_iconst (v := iZ 0) hx hb dX11_pivot_35 rfl ?_
      refine lv_goto (tgt := 45) hx hb dX11_pivot_36 (by decide) ?_
      exact zr_iret hQ hx hb hr hlk dX11_pivot_45 hK hP hD hS (by omega) (by omega) (by first | decide | (rcases pe_x_b hT hn (pe_ok hT h1n hn nn (Nat.le_refl nn)) (j := y1.toNat) (by omega) with ⟨q1, _⟩ | ⟨i, q0, q1, _⟩ <;> rw [q1] <;> first | decide | exact ⟨by omega, by omega⟩)) (⟨1, rfl, Or.inl ⟨by omega, rfl⟩⟩)

set_option maxHeartbeats 4000000 in
set_option maxRecDepth 100000 in
/-- Model.determinant -/
theorem c_mdeterminant (l : Launch) (D : va_G) (cI cJ cE cF cR : ClassId) (mo fg le sg tp bl pr rs nn : Nat) (dn sv rk tn ms th : Int) (y2 y3 : Int) (F Ln Sg PR : Nat → Int) (V : Nat → Rat) (hR : md_R V nn dn sv rk ms F Ln Sg PR) (hy2 : iR y2) (hy3 : iR y3) : Ci l D (zty cI cJ cE cF cR) yX11_determinant wsX11_determinant (zRm 2 70) 0 0 [.ref (mo), .int (iZ (y2)), .int (iZ (y3))] [(mo, mo_ fg le sg tp bl pr rs (((nn : Nat) : Int)) (dn) (sv) (rk) (tn) (ms) (th)), (fg, aI cI (52200) (F)), (le, aI cI (190) (Ln)), (sg, aI cI (90) (Sg))] (fun r w1 => ∃ tc : Int, w1 = [(mo, mo_ fg le sg tp bl pr rs (((nn : Nat) : Int)) (dn) (sv) (rk) (tn) (ms) (tc)), (fg, aI cI (52200) (F)), (le, aI cI (190) (Ln)), (sg, aI cI (90) (Sg))] ∧ (((y2 < 0 ∨ 2 < y2) ∧ tc = 1) ∨ (¬ (y2 < 0 ∨ 2 < y2) ∧ dn = 0 ∧ tc = 2) ∨ (¬ (y2 < 0 ∨ 2 < y2) ∧ dn = 1 ∧ tc = 0 ∧ bg_tl (if peR (pe V nn nn) = nn then pe_dt (peM (pe V nn nn)) (peT (pe V nn nn)) nn else 0).num.sign (((if peR (pe V nn nn) = nn then pe_dt (peM (pe V nn nn)) (peT (pe V nn nn)) nn else 0).num.natAbs : Nat) : Int) (((if peR (pe V nn nn) = nn then pe_dt (peM (pe V nn nn)) (peT (pe V nn nn)) nn else 0).den : Nat) : Int) y2 y3 r))) := by
  unfold Ci
  refine zs (Qc := zQi D _ _) (cc := cX11_determinant) (maxL := 3) (ret := (some .int)) (by decide) rfl (Nat.le_of_ble_eq_true rfl) ?_
  intro zp ze s zm below meth zc ls A args Q hQ hx hb hr hts hown hlk hml hnm hN hA hK hP hD hS hl
  have q_f_RX11_109_LimbSolverModel_done_Z := hts (.fieldLink RX11 109 "LimbSolverModel" "done" "Z") (by decide +kernel)
  have hin11 : ∀ w ∈ wsX110, w ∈ wsX11_determinant := by decide +kernel
  have q_f_RX11_40_LimbSolverModel_thrown_I := hts (.fieldLink RX11 40 "LimbSolverModel" "thrown" "I") (by decide +kernel)
  have hl : lv_has ls 3 [(0, .ref (mo)), (1, .int (iZ (y2))), (2, .int (iZ (y3)))] := hl
  obtain ⟨⟨h1n, hn, hT⟩, hAA, _⟩ := id hR
  obtain ⟨hdn, hsv, hrk, hDn⟩ := hR.dn
  have hy21 := hy2.1
  have hy22 := hy2.2
  have hy31 := hy3.1
  have hy32 := hy3.2
  refine lv_aload_n hx hb dX11_determinant_0 rfl (lv_at hl 0 rfl) ?_
  refine lv_iload_n hx hb dX11_determinant_1 rfl (lv_at hl 1 rfl) ?_
  refine zc_Si (As := [.int (iZ (y2))]) (rest := [.ref (mo)]) (wr := [(mo, mo_ fg le sg tp bl pr rs (((nn : Nat) : Int)) (dn) (sv) (rk) (tn) (ms) (th)), (fg, aI cI (52200) (F)), (le, aI cI (190) (Ln)), (sg, aI cI (90) (Sg))]) ⟨hx, hb, hml, hown, hts⟩ (c_noWhich l D cI cJ cE cF cR y2 hy2) (va_cwS 1 hts gX11_determinant_X11_noWhich rfl rfl rfl (by decide +kernel) ⟨Nat.le_of_ble_eq_true rfl, Nat.le_of_ble_eq_true rfl⟩) hN hK hP hD hS hA [] [0, 1, 2, 3] rfl rfl (by decide) (by decide) (by decide) rfl hl.1 (Nat.le_of_ble_eq_true rfl) dX11_determinant_2 ⟨by decide, by decide⟩ (fun q2 w1 H locs hz2 hp hP hD hS => ?_)
  obtain ⟨hw9, hq2⟩ := hp
  subst hw9
  have hP := hP.sub (ws' := [(mo, mo_ fg le sg tp bl pr rs (((nn : Nat) : Int)) (dn) (sv) (rk) (tn) (ms) (th)), (fg, aI cI (52200) (F)), (le, aI cI (190) (Ln)), (sg, aI cI (90) (Sg))]) [0, 1, 2, 3] rfl
  have hD := hD.sub (ws' := [(mo, mo_ fg le sg tp bl pr rs (((nn : Nat) : Int)) (dn) (sv) (rk) (tn) (ms) (th)), (fg, aI cI (52200) (F)), (le, aI cI (190) (Ln)), (sg, aI cI (90) (Sg))]) [0, 1, 2, 3] (by decide) rfl
  refine zr_if_eq hx hb 12 ⟨by omega, by omega⟩ dX11_determinant_5 (by decide) (fun h_5 => ?_) (fun h_5 => ?_)
  · refine lv_aload_n hx hb dX11_determinant_12 rfl (lv_at hl 0 rfl) ?_
    refine va_get (D := D) (ci := 11) (v := .int (iZ (dn))) (C := RX11) (T := TX11) (N := 14) hx hb hts hin11 hown hK hP 0 rfl rfl 6 (by decide) q_f_RX11_109_LimbSolverModel_done_Z (fun _ h9 => h9) rfl dX11_determinant_13 ?_
    refine zr_if_ne hx hb 23 ⟨by omega, by omega⟩ dX11_determinant_16 (by decide) (fun h_16 => ?_) (fun h_16 => ?_)
    · refine lv_iconst (v := iZ 0) hx hb dX11_determinant_23 rfl ?_
      refine va_put (D := D) (ci := 11) (v := .int (iZ (0))) (ty := tyX11 12) (C := RX11) (T := TX11) (N := 14) hx hb hts hin11 tyX11 tyX11_ok nmX11 hown hK hP hD hS 0 rfl rfl 12 (by decide) q_f_RX11_40_LimbSolverModel_thrown_I (fun _ h9 => h9) rfl (tyX11_ok 12 (by decide)) rfl rfl (Nat.le_of_ble_eq_true rfl) dX11_determinant_24 (fun H locs hP hD hS => ?_)
      have hP : va_P D vwCl [(mo, mo_ fg le sg tp bl pr rs (((nn : Nat) : Int)) (dn) (sv) (rk) (tn) (ms) (0)), (fg, aI cI (52200) (F)), (le, aI cI (190) (Ln)), (sg, aI cI (90) (Sg))] H := hP
      have hD : va_D A [(mo, mo_ fg le sg tp bl pr rs (((nn : Nat) : Int)) (dn) (sv) (rk) (tn) (ms) (0)), (fg, aI cI (52200) (F)), (le, aI cI (190) (Ln)), (sg, aI cI (90) (Sg))] := hD
      refine lv_aload_n hx hb dX11_determinant_27 rfl (lv_at hl 0 rfl) ?_
      refine va_get (D := D) (ci := 11) (v := .int (iZ (0))) (C := RX11) (T := TX11) (N := 14) hx hb hts hin11 hown hK hP 0 rfl rfl 12 (by decide) q_f_RX11_40_LimbSolverModel_thrown_I (fun _ h9 => h9) rfl dX11_determinant_28 ?_
      refine zr_if_le hx hb 38 ⟨by omega, by omega⟩ dX11_determinant_31 (by decide) (fun h_31 => ?_) (fun h_31 => ?_)
      · refine lv_aload_n hx hb dX11_determinant_38 rfl (lv_at hl 0 rfl) ?_
        refine lv_bipush (v := iZ 84) hx hb dX11_determinant_39 (by decide) ?_
        refine zr_eqi (((84 : Nat) : Int)) (by rfl) ?_
        refine lv_iload_n hx hb dX11_determinant_41 rfl (lv_at hl 1 rfl) ?_
        refine lv_iload_n hx hb dX11_determinant_42 rfl (lv_at hl 2 rfl) ?_
        refine zc_Vi (As := [.int (iZ (((84 : Nat) : Int))), .int (iZ (y2)), .int (iZ (y3))]) (rest := []) (wr := []) ⟨hx, hb, hml, hown, hts⟩ (c_mpart l D cI cJ cE cF cR mo fg le sg tp bl pr rs ((nn : Nat) : Int) dn sv rk tn ms (0) (84) y2 y3 F Ln Sg (if peR (pe V nn nn) = nn then pe_dt (peM (pe V nn nn)) (peT (pe V nn nn)) nn else 0) (by omega) hy2 hy3 ((hDn (by omega)).2.1)) (cwV 3 hts gX11_determinant_X11_part rfl rfl rfl (by decide +kernel) ⟨Nat.le_of_ble_eq_true rfl, Nat.le_of_ble_eq_true rfl⟩) hN hK hP hD hS hA [0, 1, 2, 3] [] rfl rfl (by decide) (by decide) (by decide) (q0 := 0) (ci := 11) rfl rfl rfl rfl hl.1 (Nat.le_of_ble_eq_true rfl) dX11_determinant_43 ⟨by decide, by decide⟩ (fun rv w1 H locs hz43 hp hP hD hS => ?_)
        obtain ⟨hw9, hr0⟩ := hp
        subst hw9
        have hP := hP.sub (ws' := [(mo, mo_ fg le sg tp bl pr rs (((nn : Nat) : Int)) (dn) (sv) (rk) (tn) (ms) (0)), (fg, aI cI (52200) (F)), (le, aI cI (190) (Ln)), (sg, aI cI (90) (Sg))]) [0, 1, 2, 3] rfl
        have hD := hD.sub (ws' := [(mo, mo_ fg le sg tp bl pr rs (((nn : Nat) : Int)) (dn) (sv) (rk) (tn) (ms) (0)), (fg, aI cI (52200) (F)), (le, aI cI (190) (Ln)), (sg, aI cI (90) (Sg))]) [0, 1, 2, 3] (by decide) rfl
        exact zr_iret hQ hx hb hr hlk dX11_determinant_46 hK hP hD hS (by omega) (by omega) (by first | decide | exact hz43) (⟨0, rfl, Or.inr (Or.inr ⟨by omega, by omega, rfl, hr0⟩)⟩)
      · exfalso; omega
    · refine lv_iconst (v := iZ 2) hx hb dX11_determinant_19 rfl ?_
      refine lv_goto (tgt := 24) hx hb dX11_determinant_20 (by decide) ?_
      refine va_put (D := D) (ci := 11) (v := .int (iZ (2))) (ty := tyX11 12) (C := RX11) (T := TX11) (N := 14) hx hb hts hin11 tyX11 tyX11_ok nmX11 hown hK hP hD hS 0 rfl rfl 12 (by decide) q_f_RX11_40_LimbSolverModel_thrown_I (fun _ h9 => h9) rfl (tyX11_ok 12 (by decide)) rfl rfl (Nat.le_of_ble_eq_true rfl) dX11_determinant_24 (fun H locs hP hD hS => ?_)
      have hP : va_P D vwCl [(mo, mo_ fg le sg tp bl pr rs (((nn : Nat) : Int)) (dn) (sv) (rk) (tn) (ms) (2)), (fg, aI cI (52200) (F)), (le, aI cI (190) (Ln)), (sg, aI cI (90) (Sg))] H := hP
      have hD : va_D A [(mo, mo_ fg le sg tp bl pr rs (((nn : Nat) : Int)) (dn) (sv) (rk) (tn) (ms) (2)), (fg, aI cI (52200) (F)), (le, aI cI (190) (Ln)), (sg, aI cI (90) (Sg))] := hD
      refine lv_aload_n hx hb dX11_determinant_27 rfl (lv_at hl 0 rfl) ?_
      refine va_get (D := D) (ci := 11) (v := .int (iZ (2))) (C := RX11) (T := TX11) (N := 14) hx hb hts hin11 hown hK hP 0 rfl rfl 12 (by decide) q_f_RX11_40_LimbSolverModel_thrown_I (fun _ h9 => h9) rfl dX11_determinant_28 ?_
      refine zr_if_le hx hb 38 ⟨by omega, by omega⟩ dX11_determinant_31 (by decide) (fun h_31 => ?_) (fun h_31 => ?_)
      · exfalso; omega
      · refine lv_iconst (v := iZ 0) hx hb dX11_determinant_34 rfl ?_
        refine lv_goto (tgt := 46) hx hb dX11_determinant_35 (by decide) ?_
        exact zr_iret hQ hx hb hr hlk dX11_determinant_46 hK hP hD hS (by omega) (by omega) (by first | decide | exact hz43) (⟨2, rfl, Or.inr (Or.inl ⟨by omega, by omega, rfl⟩)⟩)
  · refine lv_iconst (v := iZ 1) hx hb dX11_determinant_8 rfl ?_
    refine lv_goto (tgt := 24) hx hb dX11_determinant_9 (by decide) ?_
    refine va_put (D := D) (ci := 11) (v := .int (iZ (1))) (ty := tyX11 12) (C := RX11) (T := TX11) (N := 14) hx hb hts hin11 tyX11 tyX11_ok nmX11 hown hK hP hD hS 0 rfl rfl 12 (by decide) q_f_RX11_40_LimbSolverModel_thrown_I (fun _ h9 => h9) rfl (tyX11_ok 12 (by decide)) rfl rfl (Nat.le_of_ble_eq_true rfl) dX11_determinant_24 (fun H locs hP hD hS => ?_)
    have hP : va_P D vwCl [(mo, mo_ fg le sg tp bl pr rs (((nn : Nat) : Int)) (dn) (sv) (rk) (tn) (ms) (1)), (fg, aI cI (52200) (F)), (le, aI cI (190) (Ln)), (sg, aI cI (90) (Sg))] H := hP
    have hD : va_D A [(mo, mo_ fg le sg tp bl pr rs (((nn : Nat) : Int)) (dn) (sv) (rk) (tn) (ms) (1)), (fg, aI cI (52200) (F)), (le, aI cI (190) (Ln)), (sg, aI cI (90) (Sg))] := hD
    refine lv_aload_n hx hb dX11_determinant_27 rfl (lv_at hl 0 rfl) ?_
    refine va_get (D := D) (ci := 11) (v := .int (iZ (1))) (C := RX11) (T := TX11) (N := 14) hx hb hts hin11 hown hK hP 0 rfl rfl 12 (by decide) q_f_RX11_40_LimbSolverModel_thrown_I (fun _ h9 => h9) rfl dX11_determinant_28 ?_
    refine zr_if_le hx hb 38 ⟨by omega, by omega⟩ dX11_determinant_31 (by decide) (fun h_31 => ?_) (fun h_31 => ?_)
    · exfalso; omega
    · refine lv_iconst (v := iZ 0) hx hb dX11_determinant_34 rfl ?_
      refine lv_goto (tgt := 46) hx hb dX11_determinant_35 (by decide) ?_
      exact zr_iret hQ hx hb hr hlk dX11_determinant_46 hK hP hD hS (by omega) (by omega) (by first | decide | exact hz43) (⟨1, rfl, Or.inl ⟨by omega, rfl⟩⟩)

set_option maxHeartbeats 4000000 in
set_option maxRecDepth 100000 in
/-- Model.cell -/
theorem c_mcell (l : Launch) (D : va_G) (cI cJ cE cF cR : ClassId) (mo fg le sg tp bl pr rs nn : Nat) (dn sv rk tn ms th : Int) (y1 y4 y2 y3 : Int) (F Ln Sg PR : Nat → Int) (V : Nat → Rat) (hR : md_R V nn dn sv rk ms F Ln Sg PR) (hy1 : iR y1) (hy4 : iR y4) (hy2 : iR y2) (hy3 : iR y3) : Ci l D (zty cI cJ cE cF cR) yX11_cell wsX11_cell (zRm 2 70) 0 0 [.ref (mo), .int (iZ (y1)), .int (iZ (y4)), .int (iZ (y2)), .int (iZ (y3))] [(mo, mo_ fg le sg tp bl pr rs (((nn : Nat) : Int)) (dn) (sv) (rk) (tn) (ms) (th)), (fg, aI cI (52200) (F)), (le, aI cI (190) (Ln)), (sg, aI cI (90) (Sg))] (fun r w1 => ∃ tc : Int, w1 = [(mo, mo_ fg le sg tp bl pr rs (((nn : Nat) : Int)) (dn) (sv) (rk) (tn) (ms) (tc)), (fg, aI cI (52200) (F)), (le, aI cI (190) (Ln)), (sg, aI cI (90) (Sg))] ∧ ((((y1 < 0 ∨ (nn : Int) ≤ y1 ∨ y4 < 0 ∨ (nn : Int) < y4) ∨ (y2 < 0 ∨ 2 < y2)) ∧ tc = 1) ∨ (¬ ((y1 < 0 ∨ (nn : Int) ≤ y1 ∨ y4 < 0 ∨ (nn : Int) < y4) ∨ (y2 < 0 ∨ 2 < y2)) ∧ dn = 0 ∧ tc = 2) ∨ (¬ ((y1 < 0 ∨ (nn : Int) ≤ y1 ∨ y4 < 0 ∨ (nn : Int) < y4) ∨ (y2 < 0 ∨ 2 < y2)) ∧ dn = 1 ∧ tc = 0 ∧ bg_tl (peM (pe V nn nn) y1.toNat y4.toNat).num.sign (((peM (pe V nn nn) y1.toNat y4.toNat).num.natAbs : Nat) : Int) (((peM (pe V nn nn) y1.toNat y4.toNat).den : Nat) : Int) y2 y3 r))) := by
  unfold Ci
  refine zs (Qc := zQi D _ _) (cc := cX11_cell) (maxL := 5) (ret := (some .int)) (by decide) rfl (Nat.le_of_ble_eq_true rfl) ?_
  intro zp ze s zm below meth zc ls A args Q hQ hx hb hr hts hown hlk hml hnm hN hA hK hP hD hS hl
  have q_f_RX11_40_LimbSolverModel_thrown_I := hts (.fieldLink RX11 40 "LimbSolverModel" "thrown" "I") (by decide +kernel)
  have hin11 : ∀ w ∈ wsX110, w ∈ wsX11_cell := by decide +kernel
  have q_f_RX11_109_LimbSolverModel_done_Z := hts (.fieldLink RX11 109 "LimbSolverModel" "done" "Z") (by decide +kernel)
  have hl : lv_has ls 5 [(0, .ref (mo)), (1, .int (iZ (y1))), (2, .int (iZ (y4))), (3, .int (iZ (y2))), (4, .int (iZ (y3)))] := hl
  obtain ⟨⟨h1n, hn, hT⟩, hAA, _⟩ := id hR
  obtain ⟨hdn, hsv, hrk, hDn⟩ := hR.dn
  have hy11 := hy1.1
  have hy12 := hy1.2
  have hy41 := hy4.1
  have hy42 := hy4.2
  have hy21 := hy2.1
  have hy22 := hy2.2
  have hy31 := hy3.1
  have hy32 := hy3.2
  refine lv_aload_n hx hb dX11_cell_0 rfl (lv_at hl 0 rfl) ?_
  refine lv_aload_n hx hb dX11_cell_1 rfl (lv_at hl 0 rfl) ?_
  refine lv_iload_n hx hb dX11_cell_2 rfl (lv_at hl 1 rfl) ?_
  refine lv_iload_n hx hb dX11_cell_3 rfl (lv_at hl 2 rfl) ?_
  refine zc_Vi (As := [.int (iZ (y1)), .int (iZ (y4))]) (rest := [.ref (mo)]) (wr := [(fg, aI cI (52200) (F)), (le, aI cI (190) (Ln)), (sg, aI cI (90) (Sg))]) ⟨hx, hb, hml, hown, hts⟩ (c_noCell l D cI cJ cE cF cR mo fg le sg tp bl pr rs nn dn sv rk tn ms th y1 y4 hy1 hy4 hn) (cwV 2 hts gX11_cell_X11_noCell rfl rfl rfl (by decide +kernel) ⟨Nat.le_of_ble_eq_true rfl, Nat.le_of_ble_eq_true rfl⟩) hN hK hP hD hS hA [0] [1, 2, 3] rfl rfl (by decide) (by decide) (by decide) (q0 := 0) (ci := 11) rfl rfl rfl rfl hl.1 (Nat.le_of_ble_eq_true rfl) dX11_cell_4 ⟨by decide, by decide⟩ (fun q4 w1 H locs hz4 hp hP hD hS => ?_)
  obtain ⟨hw9, hq4⟩ := hp
  subst hw9
  have hP := hP.sub (ws' := [(mo, mo_ fg le sg tp bl pr rs (((nn : Nat) : Int)) (dn) (sv) (rk) (tn) (ms) (th)), (fg, aI cI (52200) (F)), (le, aI cI (190) (Ln)), (sg, aI cI (90) (Sg))]) [3, 0, 1, 2] rfl
  have hD := hD.sub (ws' := [(mo, mo_ fg le sg tp bl pr rs (((nn : Nat) : Int)) (dn) (sv) (rk) (tn) (ms) (th)), (fg, aI cI (52200) (F)), (le, aI cI (190) (Ln)), (sg, aI cI (90) (Sg))]) [3, 0, 1, 2] (by decide) rfl
  refine zr_if_ne hx hb 17 ⟨by omega, by omega⟩ dX11_cell_7 (by decide) (fun h_7 => ?_) (fun h_7 => ?_)
  · refine lv_iconst (v := iZ 1) hx hb dX11_cell_17 rfl ?_
    refine lv_goto (tgt := 33) hx hb dX11_cell_18 (by decide) ?_
    refine va_put (D := D) (ci := 11) (v := .int (iZ (1))) (ty := tyX11 12) (C := RX11) (T := TX11) (N := 14) hx hb hts hin11 tyX11 tyX11_ok nmX11 hown hK hP hD hS 0 rfl rfl 12 (by decide) q_f_RX11_40_LimbSolverModel_thrown_I (fun _ h9 => h9) rfl (tyX11_ok 12 (by decide)) rfl rfl (Nat.le_of_ble_eq_true rfl) dX11_cell_33 (fun H locs hP hD hS => ?_)
    have hP : va_P D vwCl [(mo, mo_ fg le sg tp bl pr rs (((nn : Nat) : Int)) (dn) (sv) (rk) (tn) (ms) (1)), (fg, aI cI (52200) (F)), (le, aI cI (190) (Ln)), (sg, aI cI (90) (Sg))] H := hP
    have hD : va_D A [(mo, mo_ fg le sg tp bl pr rs (((nn : Nat) : Int)) (dn) (sv) (rk) (tn) (ms) (1)), (fg, aI cI (52200) (F)), (le, aI cI (190) (Ln)), (sg, aI cI (90) (Sg))] := hD
    refine lv_aload_n hx hb dX11_cell_36 rfl (lv_at hl 0 rfl) ?_
    refine va_get (D := D) (ci := 11) (v := .int (iZ (1))) (C := RX11) (T := TX11) (N := 14) hx hb hts hin11 hown hK hP 0 rfl rfl 12 (by decide) q_f_RX11_40_LimbSolverModel_thrown_I (fun _ h9 => h9) rfl dX11_cell_37 ?_
    refine zr_if_le hx hb 47 ⟨by omega, by omega⟩ dX11_cell_40 (by decide) (fun h_40 => ?_) (fun h_40 => ?_)
    · exfalso; omega
    · refine lv_iconst (v := iZ 0) hx hb dX11_cell_43 rfl ?_
      refine lv_goto (tgt := 62) hx hb dX11_cell_44 (by decide) ?_
      exact zr_iret hQ hx hb hr hlk dX11_cell_62 hK hP hD hS (by omega) (by omega) (by first | decide | exact hz59) (⟨1, rfl, Or.inl ⟨by omega, rfl⟩⟩)
  · refine lv_iload_n hx hb dX11_cell_10 rfl (lv_at hl 3 rfl) ?_
    refine zc_Si (As := [.int (iZ (y2))]) (rest := [.ref (mo)]) (wr := [(mo, mo_ fg le sg tp bl pr rs (((nn : Nat) : Int)) (dn) (sv) (rk) (tn) (ms) (th)), (fg, aI cI (52200) (F)), (le, aI cI (190) (Ln)), (sg, aI cI (90) (Sg))]) ⟨hx, hb, hml, hown, hts⟩ (c_noWhich l D cI cJ cE cF cR y2 hy2) (va_cwS 1 hts gX11_cell_X11_noWhich rfl rfl rfl (by decide +kernel) ⟨Nat.le_of_ble_eq_true rfl, Nat.le_of_ble_eq_true rfl⟩) hN hK hP hD hS hA [] [0, 1, 2, 3] rfl rfl (by decide) (by decide) (by decide) rfl hl.1 (Nat.le_of_ble_eq_true rfl) dX11_cell_11 ⟨by decide, by decide⟩ (fun q11 w1 H locs hz11 hp hP hD hS => ?_)
    obtain ⟨hw9, hq11⟩ := hp
    subst hw9
    have hP := hP.sub (ws' := [(mo, mo_ fg le sg tp bl pr rs (((nn : Nat) : Int)) (dn) (sv) (rk) (tn) (ms) (th)), (fg, aI cI (52200) (F)), (le, aI cI (190) (Ln)), (sg, aI cI (90) (Sg))]) [0, 1, 2, 3] rfl
    have hD := hD.sub (ws' := [(mo, mo_ fg le sg tp bl pr rs (((nn : Nat) : Int)) (dn) (sv) (rk) (tn) (ms) (th)), (fg, aI cI (52200) (F)), (le, aI cI (190) (Ln)), (sg, aI cI (90) (Sg))]) [0, 1, 2, 3] (by decide) rfl
    refine zr_if_eq hx hb 21 ⟨by omega, by omega⟩ dX11_cell_14 (by decide) (fun h_14 => ?_) (fun h_14 => ?_)
    · refine lv_aload_n hx hb dX11_cell_21 rfl (lv_at hl 0 rfl) ?_
      refine va_get (D := D) (ci := 11) (v := .int (iZ (dn))) (C := RX11) (T := TX11) (N := 14) hx hb hts hin11 hown hK hP 0 rfl rfl 6 (by decide) q_f_RX11_109_LimbSolverModel_done_Z (fun _ h9 => h9) rfl dX11_cell_22 ?_
      refine zr_if_ne hx hb 32 ⟨by omega, by omega⟩ dX11_cell_25 (by decide) (fun h_25 => ?_) (fun h_25 => ?_)
      · refine lv_iconst (v := iZ 0) hx hb dX11_cell_32 rfl ?_
        refine va_put (D := D) (ci := 11) (v := .int (iZ (0))) (ty := tyX11 12) (C := RX11) (T := TX11) (N := 14) hx hb hts hin11 tyX11 tyX11_ok nmX11 hown hK hP hD hS 0 rfl rfl 12 (by decide) q_f_RX11_40_LimbSolverModel_thrown_I (fun _ h9 => h9) rfl (tyX11_ok 12 (by decide)) rfl rfl (Nat.le_of_ble_eq_true rfl) dX11_cell_33 (fun H locs hP hD hS => ?_)
        have hP : va_P D vwCl [(mo, mo_ fg le sg tp bl pr rs (((nn : Nat) : Int)) (dn) (sv) (rk) (tn) (ms) (0)), (fg, aI cI (52200) (F)), (le, aI cI (190) (Ln)), (sg, aI cI (90) (Sg))] H := hP
        have hD : va_D A [(mo, mo_ fg le sg tp bl pr rs (((nn : Nat) : Int)) (dn) (sv) (rk) (tn) (ms) (0)), (fg, aI cI (52200) (F)), (le, aI cI (190) (Ln)), (sg, aI cI (90) (Sg))] := hD
        refine lv_aload_n hx hb dX11_cell_36 rfl (lv_at hl 0 rfl) ?_
        refine va_get (D := D) (ci := 11) (v := .int (iZ (0))) (C := RX11) (T := TX11) (N := 14) hx hb hts hin11 hown hK hP 0 rfl rfl 12 (by decide) q_f_RX11_40_LimbSolverModel_thrown_I (fun _ h9 => h9) rfl dX11_cell_37 ?_
        refine zr_if_le hx hb 47 ⟨by omega, by omega⟩ dX11_cell_40 (by decide) (fun h_40 => ?_) (fun h_40 => ?_)
        · refine lv_aload_n hx hb dX11_cell_47 rfl (lv_at hl 0 rfl) ?_
          refine lv_bipush (v := iZ 42) hx hb dX11_cell_48 (by decide) ?_
          refine lv_iload_n hx hb dX11_cell_50 rfl (lv_at hl 1 rfl) ?_
          refine zr_eqi (((y1.toNat : Nat) : Int)) (by omega) ?_
          refine lv_iload_n hx hb dX11_cell_51 rfl (lv_at hl 2 rfl) ?_
          refine zr_eqi (((y4.toNat : Nat) : Int)) (by omega) ?_
          refine zc_Si (As := [.int (iZ (((y1.toNat : Nat) : Int))), .int (iZ (((y4.toNat : Nat) : Int)))]) (rest := [.int (iZ (42)), .ref (mo)]) (wr := [(mo, mo_ fg le sg tp bl pr rs (((nn : Nat) : Int)) (dn) (sv) (rk) (tn) (ms) (0)), (fg, aI cI (52200) (F)), (le, aI cI (190) (Ln)), (sg, aI cI (90) (Sg))]) ⟨hx, hb, hml, hown, hts⟩ (c_place l D cI cJ cE cF cR (y1.toNat) (y4.toNat) (by omega) (by omega)) (va_cwS 2 hts gX11_cell_X11_place rfl rfl rfl (by decide +kernel) ⟨Nat.le_of_ble_eq_true rfl, Nat.le_of_ble_eq_true rfl⟩) hN hK hP hD hS hA [] [0, 1, 2, 3] rfl rfl (by decide) (by decide) (by decide) rfl hl.1 (Nat.le_of_ble_eq_true rfl) dX11_cell_52 ⟨by decide, by decide⟩ (fun z52 w1 H locs hz52 hp hP hD hS => ?_)
          obtain ⟨hw9, hx0⟩ := hp
          subst hw9
          subst hx0
          have hP := hP.sub (ws' := [(mo, mo_ fg le sg tp bl pr rs (((nn : Nat) : Int)) (dn) (sv) (rk) (tn) (ms) (0)), (fg, aI cI (52200) (F)), (le, aI cI (190) (Ln)), (sg, aI cI (90) (Sg))]) [0, 1, 2, 3] rfl
          have hD := hD.sub (ws' := [(mo, mo_ fg le sg tp bl pr rs (((nn : Nat) : Int)) (dn) (sv) (rk) (tn) (ms) (0)), (fg, aI cI (52200) (F)), (le, aI cI (190) (Ln)), (sg, aI cI (90) (Sg))]) [0, 1, 2, 3] (by decide) rfl
          refine zr_iadd hx hb dX11_cell_55 ?_
          refine zr_eqi (((42 + (7 * y1.toNat + y4.toNat) : Nat) : Int)) (by omega) ?_
          refine lv_iload_n hx hb dX11_cell_56 rfl (lv_at hl 3 rfl) ?_
          refine lv_iload hx hb dX11_cell_57 (lv_at hl 4 rfl) ?_
          refine zc_Vi (As := [.int (iZ (((42 + (7 * y1.toNat + y4.toNat) : Nat) : Int))), .int (iZ (y2)), .int (iZ (y3))]) (rest := []) (wr := []) ⟨hx, hb, hml, hown, hts⟩ (c_mpart l D cI cJ cE cF cR mo fg le sg tp bl pr rs ((nn : Nat) : Int) dn sv rk tn ms (0) (42 + (7 * y1.toNat + y4.toNat)) y2 y3 F Ln Sg (peM (pe V nn nn) y1.toNat y4.toNat) (by omega) hy2 hy3 ((hDn (by omega)).fl (by omega) (by omega))) (cwV 3 hts gX11_cell_X11_part rfl rfl rfl (by decide +kernel) ⟨Nat.le_of_ble_eq_true rfl, Nat.le_of_ble_eq_true rfl⟩) hN hK hP hD hS hA [0, 1, 2, 3] [] rfl rfl (by decide) (by decide) (by decide) (q0 := 0) (ci := 11) rfl rfl rfl rfl hl.1 (Nat.le_of_ble_eq_true rfl) dX11_cell_59 ⟨by decide, by decide⟩ (fun rv w1 H locs hz59 hp hP hD hS => ?_)
          obtain ⟨hw9, hr0⟩ := hp
          subst hw9
          have hP := hP.sub (ws' := [(mo, mo_ fg le sg tp bl pr rs (((nn : Nat) : Int)) (dn) (sv) (rk) (tn) (ms) (0)), (fg, aI cI (52200) (F)), (le, aI cI (190) (Ln)), (sg, aI cI (90) (Sg))]) [0, 1, 2, 3] rfl
          have hD := hD.sub (ws' := [(mo, mo_ fg le sg tp bl pr rs (((nn : Nat) : Int)) (dn) (sv) (rk) (tn) (ms) (0)), (fg, aI cI (52200) (F)), (le, aI cI (190) (Ln)), (sg, aI cI (90) (Sg))]) [0, 1, 2, 3] (by decide) rfl
          exact zr_iret hQ hx hb hr hlk dX11_cell_62 hK hP hD hS (by omega) (by omega) (by first | decide | exact hz59) (⟨0, rfl, Or.inr (Or.inr ⟨by omega, by omega, rfl, hr0⟩)⟩)
        · exfalso; omega
      · refine lv_iconst (v := iZ 2) hx hb dX11_cell_28 rfl ?_
        refine lv_goto (tgt := 33) hx hb dX11_cell_29 (by decide) ?_
        refine va_put (D := D) (ci := 11) (v := .int (iZ (2))) (ty := tyX11 12) (C := RX11) (T := TX11) (N := 14) hx hb hts hin11 tyX11 tyX11_ok nmX11 hown hK hP hD hS 0 rfl rfl 12 (by decide) q_f_RX11_40_LimbSolverModel_thrown_I (fun _ h9 => h9) rfl (tyX11_ok 12 (by decide)) rfl rfl (Nat.le_of_ble_eq_true rfl) dX11_cell_33 (fun H locs hP hD hS => ?_)
        have hP : va_P D vwCl [(mo, mo_ fg le sg tp bl pr rs (((nn : Nat) : Int)) (dn) (sv) (rk) (tn) (ms) (2)), (fg, aI cI (52200) (F)), (le, aI cI (190) (Ln)), (sg, aI cI (90) (Sg))] H := hP
        have hD : va_D A [(mo, mo_ fg le sg tp bl pr rs (((nn : Nat) : Int)) (dn) (sv) (rk) (tn) (ms) (2)), (fg, aI cI (52200) (F)), (le, aI cI (190) (Ln)), (sg, aI cI (90) (Sg))] := hD
        refine lv_aload_n hx hb dX11_cell_36 rfl (lv_at hl 0 rfl) ?_
        refine va_get (D := D) (ci := 11) (v := .int (iZ (2))) (C := RX11) (T := TX11) (N := 14) hx hb hts hin11 hown hK hP 0 rfl rfl 12 (by decide) q_f_RX11_40_LimbSolverModel_thrown_I (fun _ h9 => h9) rfl dX11_cell_37 ?_
        refine zr_if_le hx hb 47 ⟨by omega, by omega⟩ dX11_cell_40 (by decide) (fun h_40 => ?_) (fun h_40 => ?_)
        · exfalso; omega
        · refine lv_iconst (v := iZ 0) hx hb dX11_cell_43 rfl ?_
          refine lv_goto (tgt := 62) hx hb dX11_cell_44 (by decide) ?_
          exact zr_iret hQ hx hb hr hlk dX11_cell_62 hK hP hD hS (by omega) (by omega) (by first | decide | exact hz59) (⟨2, rfl, Or.inr (Or.inl ⟨by omega, by omega, rfl⟩)⟩)
    · refine lv_iconst (v := iZ 1) hx hb dX11_cell_17 rfl ?_
      refine lv_goto (tgt := 33) hx hb dX11_cell_18 (by decide) ?_
      refine va_put (D := D) (ci := 11) (v := .int (iZ (1))) (ty := tyX11 12) (C := RX11) (T := TX11) (N := 14) hx hb hts hin11 tyX11 tyX11_ok nmX11 hown hK hP hD hS 0 rfl rfl 12 (by decide) q_f_RX11_40_LimbSolverModel_thrown_I (fun _ h9 => h9) rfl (tyX11_ok 12 (by decide)) rfl rfl (Nat.le_of_ble_eq_true rfl) dX11_cell_33 (fun H locs hP hD hS => ?_)
      have hP : va_P D vwCl [(mo, mo_ fg le sg tp bl pr rs (((nn : Nat) : Int)) (dn) (sv) (rk) (tn) (ms) (1)), (fg, aI cI (52200) (F)), (le, aI cI (190) (Ln)), (sg, aI cI (90) (Sg))] H := hP
      have hD : va_D A [(mo, mo_ fg le sg tp bl pr rs (((nn : Nat) : Int)) (dn) (sv) (rk) (tn) (ms) (1)), (fg, aI cI (52200) (F)), (le, aI cI (190) (Ln)), (sg, aI cI (90) (Sg))] := hD
      refine lv_aload_n hx hb dX11_cell_36 rfl (lv_at hl 0 rfl) ?_
      refine va_get (D := D) (ci := 11) (v := .int (iZ (1))) (C := RX11) (T := TX11) (N := 14) hx hb hts hin11 hown hK hP 0 rfl rfl 12 (by decide) q_f_RX11_40_LimbSolverModel_thrown_I (fun _ h9 => h9) rfl dX11_cell_37 ?_
      refine zr_if_le hx hb 47 ⟨by omega, by omega⟩ dX11_cell_40 (by decide) (fun h_40 => ?_) (fun h_40 => ?_)
      · exfalso; omega
      · refine lv_iconst (v := iZ 0) hx hb dX11_cell_43 rfl ?_
        refine lv_goto (tgt := 62) hx hb dX11_cell_44 (by decide) ?_
        exact zr_iret hQ hx hb hr hlk dX11_cell_62 hK hP hD hS (by omega) (by omega) (by first | decide | exact hz59) (⟨1, rfl, Or.inl ⟨by omega, rfl⟩⟩)

set_option maxHeartbeats 4000000 in
set_option maxRecDepth 100000 in
/-- Model.told -/
theorem c_mtold (l : Launch) (D : va_G) (cI cJ cE cF cR : ClassId) (mo fg le sg tp bl pr rs nn : Nat) (dn sv rk tn ms th : Int) (y1 y4 y2 y3 : Int) (F Ln Sg PR : Nat → Int) (V : Nat → Rat) (hR : md_R V nn dn sv rk ms F Ln Sg PR) (hy1 : iR y1) (hy4 : iR y4) (hy2 : iR y2) (hy3 : iR y3) : Ci l D (zty cI cJ cE cF cR) yX11_told wsX11_told (zRm 2 70) 0 0 [.ref (mo), .int (iZ (y1)), .int (iZ (y4)), .int (iZ (y2)), .int (iZ (y3))] [(mo, mo_ fg le sg tp bl pr rs (((nn : Nat) : Int)) (dn) (sv) (rk) (tn) (ms) (th)), (fg, aI cI (52200) (F)), (le, aI cI (190) (Ln)), (sg, aI cI (90) (Sg))] (fun r w1 => ∃ tc : Int, w1 = [(mo, mo_ fg le sg tp bl pr rs (((nn : Nat) : Int)) (dn) (sv) (rk) (tn) (ms) (tc)), (fg, aI cI (52200) (F)), (le, aI cI (190) (Ln)), (sg, aI cI (90) (Sg))] ∧ ((((y1 < 0 ∨ (nn : Int) ≤ y1 ∨ y4 < 0 ∨ (nn : Int) < y4) ∨ (y2 < 0 ∨ 2 < y2)) ∧ tc = 1) ∨ (¬ ((y1 < 0 ∨ (nn : Int) ≤ y1 ∨ y4 < 0 ∨ (nn : Int) < y4) ∨ (y2 < 0 ∨ 2 < y2)) ∧ tc = 0 ∧ bg_tl (V (7 * y1.toNat + y4.toNat)).num.sign (((V (7 * y1.toNat + y4.toNat)).num.natAbs : Nat) : Int) (((V (7 * y1.toNat + y4.toNat)).den : Nat) : Int) y2 y3 r))) := by
  unfold Ci
  refine zs (Qc := zQi D _ _) (cc := cX11_told) (maxL := 5) (ret := (some .int)) (by decide) rfl (Nat.le_of_ble_eq_true rfl) ?_
  intro zp ze s zm below meth zc ls A args Q hQ hx hb hr hts hown hlk hml hnm hN hA hK hP hD hS hl
  have q_f_RX11_40_LimbSolverModel_thrown_I := hts (.fieldLink RX11 40 "LimbSolverModel" "thrown" "I") (by decide +kernel)
  have hin11 : ∀ w ∈ wsX110, w ∈ wsX11_told := by decide +kernel
  have hl : lv_has ls 5 [(0, .ref (mo)), (1, .int (iZ (y1))), (2, .int (iZ (y4))), (3, .int (iZ (y2))), (4, .int (iZ (y3)))] := hl
  obtain ⟨⟨h1n, hn, hT⟩, hAA, _⟩ := id hR
  obtain ⟨hdn, hsv, hrk, hDn⟩ := hR.dn
  have hy11 := hy1.1
  have hy12 := hy1.2
  have hy41 := hy4.1
  have hy42 := hy4.2
  have hy21 := hy2.1
  have hy22 := hy2.2
  have hy31 := hy3.1
  have hy32 := hy3.2
  refine lv_aload_n hx hb dX11_told_0 rfl (lv_at hl 0 rfl) ?_
  refine lv_aload_n hx hb dX11_told_1 rfl (lv_at hl 0 rfl) ?_
  refine lv_iload_n hx hb dX11_told_2 rfl (lv_at hl 1 rfl) ?_
  refine lv_iload_n hx hb dX11_told_3 rfl (lv_at hl 2 rfl) ?_
  refine zc_Vi (As := [.int (iZ (y1)), .int (iZ (y4))]) (rest := [.ref (mo)]) (wr := [(fg, aI cI (52200) (F)), (le, aI cI (190) (Ln)), (sg, aI cI (90) (Sg))]) ⟨hx, hb, hml, hown, hts⟩ (c_noCell l D cI cJ cE cF cR mo fg le sg tp bl pr rs nn dn sv rk tn ms th y1 y4 hy1 hy4 hn) (cwV 2 hts gX11_told_X11_noCell rfl rfl rfl (by decide +kernel) ⟨Nat.le_of_ble_eq_true rfl, Nat.le_of_ble_eq_true rfl⟩) hN hK hP hD hS hA [0] [1, 2, 3] rfl rfl (by decide) (by decide) (by decide) (q0 := 0) (ci := 11) rfl rfl rfl rfl hl.1 (Nat.le_of_ble_eq_true rfl) dX11_told_4 ⟨by decide, by decide⟩ (fun q4 w1 H locs hz4 hp hP hD hS => ?_)
  obtain ⟨hw9, hq4⟩ := hp
  subst hw9
  have hP := hP.sub (ws' := [(mo, mo_ fg le sg tp bl pr rs (((nn : Nat) : Int)) (dn) (sv) (rk) (tn) (ms) (th)), (fg, aI cI (52200) (F)), (le, aI cI (190) (Ln)), (sg, aI cI (90) (Sg))]) [3, 0, 1, 2] rfl
  have hD := hD.sub (ws' := [(mo, mo_ fg le sg tp bl pr rs (((nn : Nat) : Int)) (dn) (sv) (rk) (tn) (ms) (th)), (fg, aI cI (52200) (F)), (le, aI cI (190) (Ln)), (sg, aI cI (90) (Sg))]) [3, 0, 1, 2] (by decide) rfl
  refine zr_if_ne hx hb 17 ⟨by omega, by omega⟩ dX11_told_7 (by decide) (fun h_7 => ?_) (fun h_7 => ?_)
  · refine lv_iconst (v := iZ 1) hx hb dX11_told_17 rfl ?_
    refine lv_goto (tgt := 22) hx hb dX11_told_18 (by decide) ?_
    refine va_put (D := D) (ci := 11) (v := .int (iZ (1))) (ty := tyX11 12) (C := RX11) (T := TX11) (N := 14) hx hb hts hin11 tyX11 tyX11_ok nmX11 hown hK hP hD hS 0 rfl rfl 12 (by decide) q_f_RX11_40_LimbSolverModel_thrown_I (fun _ h9 => h9) rfl (tyX11_ok 12 (by decide)) rfl rfl (Nat.le_of_ble_eq_true rfl) dX11_told_22 (fun H locs hP hD hS => ?_)
    have hP : va_P D vwCl [(mo, mo_ fg le sg tp bl pr rs (((nn : Nat) : Int)) (dn) (sv) (rk) (tn) (ms) (1)), (fg, aI cI (52200) (F)), (le, aI cI (190) (Ln)), (sg, aI cI (90) (Sg))] H := hP
    have hD : va_D A [(mo, mo_ fg le sg tp bl pr rs (((nn : Nat) : Int)) (dn) (sv) (rk) (tn) (ms) (1)), (fg, aI cI (52200) (F)), (le, aI cI (190) (Ln)), (sg, aI cI (90) (Sg))] := hD
    refine lv_aload_n hx hb dX11_told_25 rfl (lv_at hl 0 rfl) ?_
    refine va_get (D := D) (ci := 11) (v := .int (iZ (1))) (C := RX11) (T := TX11) (N := 14) hx hb hts hin11 hown hK hP 0 rfl rfl 12 (by decide) q_f_RX11_40_LimbSolverModel_thrown_I (fun _ h9 => h9) rfl dX11_told_26 ?_
    refine zr_if_le hx hb 36 ⟨by omega, by omega⟩ dX11_told_29 (by decide) (fun h_29 => ?_) (fun h_29 => ?_)
    · exfalso; omega
    · refine lv_iconst (v := iZ 0) hx hb dX11_told_32 rfl ?_
      refine lv_goto (tgt := 48) hx hb dX11_told_33 (by decide) ?_
      exact zr_iret hQ hx hb hr hlk dX11_told_48 hK hP hD hS (by omega) (by omega) (by first | decide | exact hz45) (⟨1, rfl, Or.inl ⟨by omega, rfl⟩⟩)
  · refine lv_iload_n hx hb dX11_told_10 rfl (lv_at hl 3 rfl) ?_
    refine zc_Si (As := [.int (iZ (y2))]) (rest := [.ref (mo)]) (wr := [(mo, mo_ fg le sg tp bl pr rs (((nn : Nat) : Int)) (dn) (sv) (rk) (tn) (ms) (th)), (fg, aI cI (52200) (F)), (le, aI cI (190) (Ln)), (sg, aI cI (90) (Sg))]) ⟨hx, hb, hml, hown, hts⟩ (c_noWhich l D cI cJ cE cF cR y2 hy2) (va_cwS 1 hts gX11_told_X11_noWhich rfl rfl rfl (by decide +kernel) ⟨Nat.le_of_ble_eq_true rfl, Nat.le_of_ble_eq_true rfl⟩) hN hK hP hD hS hA [] [0, 1, 2, 3] rfl rfl (by decide) (by decide) (by decide) rfl hl.1 (Nat.le_of_ble_eq_true rfl) dX11_told_11 ⟨by decide, by decide⟩ (fun q11 w1 H locs hz11 hp hP hD hS => ?_)
    obtain ⟨hw9, hq11⟩ := hp
    subst hw9
    have hP := hP.sub (ws' := [(mo, mo_ fg le sg tp bl pr rs (((nn : Nat) : Int)) (dn) (sv) (rk) (tn) (ms) (th)), (fg, aI cI (52200) (F)), (le, aI cI (190) (Ln)), (sg, aI cI (90) (Sg))]) [0, 1, 2, 3] rfl
    have hD := hD.sub (ws' := [(mo, mo_ fg le sg tp bl pr rs (((nn : Nat) : Int)) (dn) (sv) (rk) (tn) (ms) (th)), (fg, aI cI (52200) (F)), (le, aI cI (190) (Ln)), (sg, aI cI (90) (Sg))]) [0, 1, 2, 3] (by decide) rfl
    refine zr_if_eq hx hb 21 ⟨by omega, by omega⟩ dX11_told_14 (by decide) (fun h_14 => ?_) (fun h_14 => ?_)
    · refine lv_iconst (v := iZ 0) hx hb dX11_told_21 rfl ?_
      refine va_put (D := D) (ci := 11) (v := .int (iZ (0))) (ty := tyX11 12) (C := RX11) (T := TX11) (N := 14) hx hb hts hin11 tyX11 tyX11_ok nmX11 hown hK hP hD hS 0 rfl rfl 12 (by decide) q_f_RX11_40_LimbSolverModel_thrown_I (fun _ h9 => h9) rfl (tyX11_ok 12 (by decide)) rfl rfl (Nat.le_of_ble_eq_true rfl) dX11_told_22 (fun H locs hP hD hS => ?_)
      have hP : va_P D vwCl [(mo, mo_ fg le sg tp bl pr rs (((nn : Nat) : Int)) (dn) (sv) (rk) (tn) (ms) (0)), (fg, aI cI (52200) (F)), (le, aI cI (190) (Ln)), (sg, aI cI (90) (Sg))] H := hP
      have hD : va_D A [(mo, mo_ fg le sg tp bl pr rs (((nn : Nat) : Int)) (dn) (sv) (rk) (tn) (ms) (0)), (fg, aI cI (52200) (F)), (le, aI cI (190) (Ln)), (sg, aI cI (90) (Sg))] := hD
      refine lv_aload_n hx hb dX11_told_25 rfl (lv_at hl 0 rfl) ?_
      refine va_get (D := D) (ci := 11) (v := .int (iZ (0))) (C := RX11) (T := TX11) (N := 14) hx hb hts hin11 hown hK hP 0 rfl rfl 12 (by decide) q_f_RX11_40_LimbSolverModel_thrown_I (fun _ h9 => h9) rfl dX11_told_26 ?_
      refine zr_if_le hx hb 36 ⟨by omega, by omega⟩ dX11_told_29 (by decide) (fun h_29 => ?_) (fun h_29 => ?_)
      · refine lv_aload_n hx hb dX11_told_36 rfl (lv_at hl 0 rfl) ?_
        refine lv_iload_n hx hb dX11_told_37 rfl (lv_at hl 1 rfl) ?_
        refine zr_eqi (((y1.toNat : Nat) : Int)) (by omega) ?_
        refine lv_iload_n hx hb dX11_told_38 rfl (lv_at hl 2 rfl) ?_
        refine zr_eqi (((y4.toNat : Nat) : Int)) (by omega) ?_
        refine zc_Si (As := [.int (iZ (((y1.toNat : Nat) : Int))), .int (iZ (((y4.toNat : Nat) : Int)))]) (rest := [.ref (mo)]) (wr := [(mo, mo_ fg le sg tp bl pr rs (((nn : Nat) : Int)) (dn) (sv) (rk) (tn) (ms) (0)), (fg, aI cI (52200) (F)), (le, aI cI (190) (Ln)), (sg, aI cI (90) (Sg))]) ⟨hx, hb, hml, hown, hts⟩ (c_place l D cI cJ cE cF cR (y1.toNat) (y4.toNat) (by omega) (by omega)) (va_cwS 2 hts gX11_told_X11_place rfl rfl rfl (by decide +kernel) ⟨Nat.le_of_ble_eq_true rfl, Nat.le_of_ble_eq_true rfl⟩) hN hK hP hD hS hA [] [0, 1, 2, 3] rfl rfl (by decide) (by decide) (by decide) rfl hl.1 (Nat.le_of_ble_eq_true rfl) dX11_told_39 ⟨by decide, by decide⟩ (fun z39 w1 H locs hz39 hp hP hD hS => ?_)
        obtain ⟨hw9, hx0⟩ := hp
        subst hw9
        subst hx0
        have hP := hP.sub (ws' := [(mo, mo_ fg le sg tp bl pr rs (((nn : Nat) : Int)) (dn) (sv) (rk) (tn) (ms) (0)), (fg, aI cI (52200) (F)), (le, aI cI (190) (Ln)), (sg, aI cI (90) (Sg))]) [0, 1, 2, 3] rfl
        have hD := hD.sub (ws' := [(mo, mo_ fg le sg tp bl pr rs (((nn : Nat) : Int)) (dn) (sv) (rk) (tn) (ms) (0)), (fg, aI cI (52200) (F)), (le, aI cI (190) (Ln)), (sg, aI cI (90) (Sg))]) [0, 1, 2, 3] (by decide) rfl
        refine lv_iload_n hx hb dX11_told_42 rfl (lv_at hl 3 rfl) ?_
        refine lv_iload hx hb dX11_told_43 (lv_at hl 4 rfl) ?_
        refine zc_Vi (As := [.int (iZ (((7 * y1.toNat + y4.toNat : Nat) : Int))), .int (iZ (y2)), .int (iZ (y3))]) (rest := []) (wr := []) ⟨hx, hb, hml, hown, hts⟩ (c_mpart l D cI cJ cE cF cR mo fg le sg tp bl pr rs ((nn : Nat) : Int) dn sv rk tn ms (0) (7 * y1.toNat + y4.toNat) y2 y3 F Ln Sg (V (7 * y1.toNat + y4.toNat)) (by omega) hy2 hy3 (hAA.at0 (by omega))) (cwV 3 hts gX11_told_X11_part rfl rfl rfl (by decide +kernel) ⟨Nat.le_of_ble_eq_true rfl, Nat.le_of_ble_eq_true rfl⟩) hN hK hP hD hS hA [0, 1, 2, 3] [] rfl rfl (by decide) (by decide) (by decide) (q0 := 0) (ci := 11) rfl rfl rfl rfl hl.1 (Nat.le_of_ble_eq_true rfl) dX11_told_45 ⟨by decide, by decide⟩ (fun rv w1 H locs hz45 hp hP hD hS => ?_)
        obtain ⟨hw9, hr0⟩ := hp
        subst hw9
        have hP := hP.sub (ws' := [(mo, mo_ fg le sg tp bl pr rs (((nn : Nat) : Int)) (dn) (sv) (rk) (tn) (ms) (0)), (fg, aI cI (52200) (F)), (le, aI cI (190) (Ln)), (sg, aI cI (90) (Sg))]) [0, 1, 2, 3] rfl
        have hD := hD.sub (ws' := [(mo, mo_ fg le sg tp bl pr rs (((nn : Nat) : Int)) (dn) (sv) (rk) (tn) (ms) (0)), (fg, aI cI (52200) (F)), (le, aI cI (190) (Ln)), (sg, aI cI (90) (Sg))]) [0, 1, 2, 3] (by decide) rfl
        exact zr_iret hQ hx hb hr hlk dX11_told_48 hK hP hD hS (by omega) (by omega) (by first | decide | exact hz45) (⟨0, rfl, Or.inr ⟨by omega, rfl, hr0⟩⟩)
      · exfalso; omega
    · refine lv_iconst (v := iZ 1) hx hb dX11_told_17 rfl ?_
      refine lv_goto (tgt := 22) hx hb dX11_told_18 (by decide) ?_
      refine va_put (D := D) (ci := 11) (v := .int (iZ (1))) (ty := tyX11 12) (C := RX11) (T := TX11) (N := 14) hx hb hts hin11 tyX11 tyX11_ok nmX11 hown hK hP hD hS 0 rfl rfl 12 (by decide) q_f_RX11_40_LimbSolverModel_thrown_I (fun _ h9 => h9) rfl (tyX11_ok 12 (by decide)) rfl rfl (Nat.le_of_ble_eq_true rfl) dX11_told_22 (fun H locs hP hD hS => ?_)
      have hP : va_P D vwCl [(mo, mo_ fg le sg tp bl pr rs (((nn : Nat) : Int)) (dn) (sv) (rk) (tn) (ms) (1)), (fg, aI cI (52200) (F)), (le, aI cI (190) (Ln)), (sg, aI cI (90) (Sg))] H := hP
      have hD : va_D A [(mo, mo_ fg le sg tp bl pr rs (((nn : Nat) : Int)) (dn) (sv) (rk) (tn) (ms) (1)), (fg, aI cI (52200) (F)), (le, aI cI (190) (Ln)), (sg, aI cI (90) (Sg))] := hD
      refine lv_aload_n hx hb dX11_told_25 rfl (lv_at hl 0 rfl) ?_
      refine va_get (D := D) (ci := 11) (v := .int (iZ (1))) (C := RX11) (T := TX11) (N := 14) hx hb hts hin11 hown hK hP 0 rfl rfl 12 (by decide) q_f_RX11_40_LimbSolverModel_thrown_I (fun _ h9 => h9) rfl dX11_told_26 ?_
      refine zr_if_le hx hb 36 ⟨by omega, by omega⟩ dX11_told_29 (by decide) (fun h_29 => ?_) (fun h_29 => ?_)
      · exfalso; omega
      · refine lv_iconst (v := iZ 0) hx hb dX11_told_32 rfl ?_
        refine lv_goto (tgt := 48) hx hb dX11_told_33 (by decide) ?_
        exact zr_iret hQ hx hb hr hlk dX11_told_48 hK hP hD hS (by omega) (by omega) (by first | decide | exact hz45) (⟨1, rfl, Or.inl ⟨by omega, rfl⟩⟩)

set_option maxHeartbeats 4000000 in
set_option maxRecDepth 100000 in
/-- Model.meter -/
theorem c_mmeter (l : Launch) (D : va_G) (cI cJ cE cF cR : ClassId) (mo fg le sg tp bl pr rs nn : Nat) (dn sv rk tn ms th : Int) (F Ln Sg PR : Nat → Int) (V : Nat → Rat) (hR : md_R V nn dn sv rk ms F Ln Sg PR) : Ci l D (zty cI cJ cE cF cR) yX11_meter wsX11_meter (zRm 2 60) 0 0 [.ref (mo)] [(mo, mo_ fg le sg tp bl pr rs (((nn : Nat) : Int)) (dn) (sv) (rk) (tn) (ms) (th)), (le, aI cI (190) (Ln))] (fun r w1 => w1 = [(mo, mo_ fg le sg tp bl pr rs (((nn : Nat) : Int)) (dn) (sv) (rk) (tn) (ms) (0)), (le, aI cI (190) (Ln))] ∧ r = ((mta V nn nn : Nat) : Int)) := by
  unfold Ci
  refine zs (Qc := zQi D _ _) (cc := cX11_meter) (maxL := 1) (ret := (some .int)) (by decide) rfl (Nat.le_of_ble_eq_true rfl) ?_
  intro zp ze s zm below meth zc ls A args Q hQ hx hb hr hts hown hlk hml hnm hN hA hK hP hD hS hl
  have q_f_RX11_40_LimbSolverModel_thrown_I := hts (.fieldLink RX11 40 "LimbSolverModel" "thrown" "I") (by decide +kernel)
  have hin11 : ∀ w ∈ wsX110, w ∈ wsX11_meter := by decide +kernel
  have hl : lv_has ls 1 [(0, .ref (mo))] := hl
  obtain ⟨⟨h1n, hn, hT⟩, hAA, _⟩ := id hR
  obtain ⟨hdn, hsv, hrk, hDn⟩ := hR.dn
  refine lv_aload_n hx hb dX11_meter_0 rfl (lv_at hl 0 rfl) ?_
  refine lv_iconst (v := iZ 0) hx hb dX11_meter_1 rfl ?_
  refine va_put (D := D) (ci := 11) (v := .int (iZ (0))) (ty := tyX11 12) (C := RX11) (T := TX11) (N := 14) hx hb hts hin11 tyX11 tyX11_ok nmX11 hown hK hP hD hS 0 rfl rfl 12 (by decide) q_f_RX11_40_LimbSolverModel_thrown_I (fun _ h9 => h9) rfl (tyX11_ok 12 (by decide)) rfl rfl (Nat.le_of_ble_eq_true rfl) dX11_meter_2 (fun H locs hP hD hS => ?_)
  have hP : va_P D vwCl [(mo, mo_ fg le sg tp bl pr rs (((nn : Nat) : Int)) (dn) (sv) (rk) (tn) (ms) (0)), (le, aI cI (190) (Ln))] H := hP
  have hD : va_D A [(mo, mo_ fg le sg tp bl pr rs (((nn : Nat) : Int)) (dn) (sv) (rk) (tn) (ms) (0)), (le, aI cI (190) (Ln))] := hD
  refine lv_aload_n hx hb dX11_meter_5 rfl (lv_at hl 0 rfl) ?_
  refine lv_iconst (v := iZ 0) hx hb dX11_meter_6 rfl ?_
  refine zr_eqi (((0 : Nat) : Int)) (by rfl) ?_
  refine zc_Vi (As := [.int (iZ (((0 : Nat) : Int)))]) (rest := []) (wr := []) ⟨hx, hb, hml, hown, hts⟩ (c_meterOf l D cI cJ cE cF cR mo fg le sg tp bl pr rs nn dn sv rk tn ms (0) 0 F Ln Sg V hn (by decide) hAA) (cwV 1 hts gX11_meter_X11_meterOf rfl rfl rfl (by decide +kernel) ⟨Nat.le_of_ble_eq_true rfl, Nat.le_of_ble_eq_true rfl⟩) hN hK hP hD hS hA [0, 1] [] rfl rfl (by decide) (by decide) (by decide) (q0 := 0) (ci := 11) rfl rfl rfl rfl hl.1 (Nat.le_of_ble_eq_true rfl) dX11_meter_7 ⟨by decide, by decide⟩ (fun rv w1 H locs hz7 hp hP hD hS => ?_)
  obtain ⟨hw9, hr0⟩ := hp
  subst hw9
  have hP := hP.sub (ws' := [(mo, mo_ fg le sg tp bl pr rs (((nn : Nat) : Int)) (dn) (sv) (rk) (tn) (ms) (0)), (le, aI cI (190) (Ln))]) [0, 1] rfl
  have hD := hD.sub (ws' := [(mo, mo_ fg le sg tp bl pr rs (((nn : Nat) : Int)) (dn) (sv) (rk) (tn) (ms) (0)), (le, aI cI (190) (Ln))]) [0, 1] (by decide) rfl
  exact zr_iret hQ hx hb hr hlk dX11_meter_10 hK hP hD hS (by omega) (by omega) hz7 (⟨rfl, hr0⟩)

set_option maxHeartbeats 4000000 in
set_option maxRecDepth 100000 in
/-- Model.solution -/
theorem c_msolution (l : Launch) (D : va_G) (cI cJ cE cF cR : ClassId) (mo fg le sg tp bl pr rs nn : Nat) (dn sv rk tn ms th : Int) (y1 y2 y3 : Int) (F Ln Sg T0 B0 PR : Nat → Int) (V : Nat → Rat) (hR : md_R V nn dn sv rk ms F Ln Sg PR) (hy1 : iR y1) (hy2 : iR y2) (hy3 : iR y3) : Ci l D (zty cI cJ cE cF cR) yX11_solution wsX11_solution (zRm 9 290) 0 0 [.ref (mo), .int (iZ (y1)), .int (iZ (y2)), .int (iZ (y3))] [(mo, mo_ fg le sg tp bl pr rs (((nn : Nat) : Int)) (dn) (sv) (rk) (tn) (ms) (th)), (fg, aI cI (52200) (F)), (le, aI cI (190) (Ln)), (sg, aI cI (90) (Sg)), (tp, aI cI (1300) (T0)), (bl, aI cI (1300) (B0)), (pr, aI cI (6) (PR))] (fun r w1 => ∃ (G L1 S1 T1 B1 : Nat → Int) (tc : Int), w1 = [(mo, mo_ fg le sg tp bl pr rs (((nn : Nat) : Int)) (dn) (sv) (rk) (tn) (ms) (tc)), (fg, aI cI (52200) (G)), (le, aI cI (190) (L1)), (sg, aI cI (90) (S1)), (tp, aI cI (1300) (T1)), (bl, aI cI (1300) (B1)), (pr, aI cI (6) (PR))] ∧ (∀ g : Nat, g < 90 → g < 85 → md_ef F Ln Sg G L1 S1 g) ∧ ((((y1 < 0 ∨ (nn : Int) ≤ y1) ∨ (y2 < 0 ∨ 2 < y2)) ∧ tc = 1) ∨ (¬ ((y1 < 0 ∨ (nn : Int) ≤ y1) ∨ (y2 < 0 ∨ 2 < y2)) ∧ (dn = 0 ∨ sv = 0) ∧ tc = 2) ∨ (¬ ((y1 < 0 ∨ (nn : Int) ≤ y1) ∨ (y2 < 0 ∨ 2 < y2)) ∧ dn = 1 ∧ sv = 1 ∧ tc = 0 ∧ bg_tl (pe_x (pe V nn nn) nn y1.toNat).num.sign (((pe_x (pe V nn nn) nn y1.toNat).num.natAbs : Nat) : Int) (((pe_x (pe V nn nn) nn y1.toNat).den : Nat) : Int) y2 y3 r))) := by
  unfold Ci
  refine zs (Qc := zQi D _ _) (cc := cX11_solution) (maxL := 4) (ret := (some .int)) (by decide) rfl (Nat.le_of_ble_eq_true rfl) ?_
  intro zp ze s zm below meth zc ls A args Q hQ hx hb hr hts hown hlk hml hnm hN hA hK hP hD hS hl
  have q_f_RX11_40_LimbSolverModel_thrown_I := hts (.fieldLink RX11 40 "LimbSolverModel" "thrown" "I") (by decide +kernel)
  have hin11 : ∀ w ∈ wsX110, w ∈ wsX11_solution := by decide +kernel
  have q_f_RX11_109_LimbSolverModel_done_Z := hts (.fieldLink RX11 109 "LimbSolverModel" "done" "Z") (by decide +kernel)
  have q_f_RX11_151_LimbSolverModel_solvable_Z := hts (.fieldLink RX11 151 "LimbSolverModel" "solvable" "Z") (by decide +kernel)
  have hl : lv_has ls 4 [(0, .ref (mo)), (1, .int (iZ (y1))), (2, .int (iZ (y2))), (3, .int (iZ (y3)))] := hl
  obtain ⟨⟨h1n, hn, hT⟩, hAA, _⟩ := id hR
  obtain ⟨hdn, hsv, hrk, hDn⟩ := hR.dn
  have hy11 := hy1.1
  have hy12 := hy1.2
  have hy21 := hy2.1
  have hy22 := hy2.2
  have hy31 := hy3.1
  have hy32 := hy3.2
  have hVs := pe_ok hT h1n hn nn (Nat.le_refl nn)
  refine lv_aload_n hx hb dX11_solution_0 rfl (lv_at hl 0 rfl) ?_
  refine lv_aload_n hx hb dX11_solution_1 rfl (lv_at hl 0 rfl) ?_
  refine lv_iload_n hx hb dX11_solution_2 rfl (lv_at hl 1 rfl) ?_
  refine zc_Vi (As := [.int (iZ (y1))]) (rest := [.ref (mo)]) (wr := [(fg, aI cI (52200) (F)), (le, aI cI (190) (Ln)), (sg, aI cI (90) (Sg)), (tp, aI cI (1300) (T0)), (bl, aI cI (1300) (B0)), (pr, aI cI (6) (PR))]) ⟨hx, hb, hml, hown, hts⟩ (c_noColumn l D cI cJ cE cF cR mo fg le sg tp bl pr rs nn dn sv rk tn ms th y1 hy1 hn) (cwV 1 hts gX11_solution_X11_noColumn rfl rfl rfl (by decide +kernel) ⟨Nat.le_of_ble_eq_true rfl, Nat.le_of_ble_eq_true rfl⟩) hN hK hP hD hS hA [0] [1, 2, 3, 4, 5, 6] rfl rfl (by decide) (by decide) (by decide) (q0 := 0) (ci := 11) rfl rfl rfl rfl hl.1 (Nat.le_of_ble_eq_true rfl) dX11_solution_3 ⟨by decide, by decide⟩ (fun q3 w1 H locs hz3 hp hP hD hS => ?_)
  obtain ⟨hw9, hq3⟩ := hp
  subst hw9
  have hP := hP.sub (ws' := [(mo, mo_ fg le sg tp bl pr rs (((nn : Nat) : Int)) (dn) (sv) (rk) (tn) (ms) (th)), (fg, aI cI (52200) (F)), (le, aI cI (190) (Ln)), (sg, aI cI (90) (Sg)), (tp, aI cI (1300) (T0)), (bl, aI cI (1300) (B0)), (pr, aI cI (6) (PR))]) [6, 0, 1, 2, 3, 4, 5] rfl
  have hD := hD.sub (ws' := [(mo, mo_ fg le sg tp bl pr rs (((nn : Nat) : Int)) (dn) (sv) (rk) (tn) (ms) (th)), (fg, aI cI (52200) (F)), (le, aI cI (190) (Ln)), (sg, aI cI (90) (Sg)), (tp, aI cI (1300) (T0)), (bl, aI cI (1300) (B0)), (pr, aI cI (6) (PR))]) [6, 0, 1, 2, 3, 4, 5] (by decide) rfl
  refine zr_if_ne hx hb 16 ⟨by omega, by omega⟩ dX11_solution_6 (by decide) (fun h_6 => ?_) (fun h_6 => ?_)
  · refine lv_iconst (v := iZ 1) hx hb dX11_solution_16 rfl ?_
    refine lv_goto (tgt := 39) hx hb dX11_solution_17 (by decide) ?_
    refine va_put (D := D) (ci := 11) (v := .int (iZ (1))) (ty := tyX11 12) (C := RX11) (T := TX11) (N := 14) hx hb hts hin11 tyX11 tyX11_ok nmX11 hown hK hP hD hS 0 rfl rfl 12 (by decide) q_f_RX11_40_LimbSolverModel_thrown_I (fun _ h9 => h9) rfl (tyX11_ok 12 (by decide)) rfl rfl (Nat.le_of_ble_eq_true rfl) dX11_solution_39 (fun H locs hP hD hS => ?_)
    have hP : va_P D vwCl [(mo, mo_ fg le sg tp bl pr rs (((nn : Nat) : Int)) (dn) (sv) (rk) (tn) (ms) (1)), (fg, aI cI (52200) (F)), (le, aI cI (190) (Ln)), (sg, aI cI (90) (Sg)), (tp, aI cI (1300) (T0)), (bl, aI cI (1300) (B0)), (pr, aI cI (6) (PR))] H := hP
    have hD : va_D A [(mo, mo_ fg le sg tp bl pr rs (((nn : Nat) : Int)) (dn) (sv) (rk) (tn) (ms) (1)), (fg, aI cI (52200) (F)), (le, aI cI (190) (Ln)), (sg, aI cI (90) (Sg)), (tp, aI cI (1300) (T0)), (bl, aI cI (1300) (B0)), (pr, aI cI (6) (PR))] := hD
    refine lv_aload_n hx hb dX11_solution_42 rfl (lv_at hl 0 rfl) ?_
    refine va_get (D := D) (ci := 11) (v := .int (iZ (1))) (C := RX11) (T := TX11) (N := 14) hx hb hts hin11 hown hK hP 0 rfl rfl 12 (by decide) q_f_RX11_40_LimbSolverModel_thrown_I (fun _ h9 => h9) rfl dX11_solution_43 ?_
    refine zr_if_le hx hb 51 ⟨by omega, by omega⟩ dX11_solution_46 (by decide) (fun h_46 => ?_) (fun h_46 => ?_)
    · exfalso; omega
    · refine lv_iconst (v := iZ 0) hx hb dX11_solution_49 rfl ?_
      exact zr_iret hQ hx hb hr hlk dX11_solution_50 hK hP hD hS (by omega) (by omega) (by decide) (⟨F, Ln, Sg, T0, B0, 1, rfl, (fun g _ _ => md_ef.refl F Ln Sg g), Or.inl ⟨by omega, rfl⟩⟩)
  · refine lv_iload_n hx hb dX11_solution_9 rfl (lv_at hl 2 rfl) ?_
    refine zc_Si (As := [.int (iZ (y2))]) (rest := [.ref (mo)]) (wr := [(mo, mo_ fg le sg tp bl pr rs (((nn : Nat) : Int)) (dn) (sv) (rk) (tn) (ms) (th)), (fg, aI cI (52200) (F)), (le, aI cI (190) (Ln)), (sg, aI cI (90) (Sg)), (tp, aI cI (1300) (T0)), (bl, aI cI (1300) (B0)), (pr, aI cI (6) (PR))]) ⟨hx, hb, hml, hown, hts⟩ (c_noWhich l D cI cJ cE cF cR y2 hy2) (va_cwS 1 hts gX11_solution_X11_noWhich rfl rfl rfl (by decide +kernel) ⟨Nat.le_of_ble_eq_true rfl, Nat.le_of_ble_eq_true rfl⟩) hN hK hP hD hS hA [] [0, 1, 2, 3, 4, 5, 6] rfl rfl (by decide) (by decide) (by decide) rfl hl.1 (Nat.le_of_ble_eq_true rfl) dX11_solution_10 ⟨by decide, by decide⟩ (fun q10 w1 H locs hz10 hp hP hD hS => ?_)
    obtain ⟨hw9, hq10⟩ := hp
    subst hw9
    have hP := hP.sub (ws' := [(mo, mo_ fg le sg tp bl pr rs (((nn : Nat) : Int)) (dn) (sv) (rk) (tn) (ms) (th)), (fg, aI cI (52200) (F)), (le, aI cI (190) (Ln)), (sg, aI cI (90) (Sg)), (tp, aI cI (1300) (T0)), (bl, aI cI (1300) (B0)), (pr, aI cI (6) (PR))]) [0, 1, 2, 3, 4, 5, 6] rfl
    have hD := hD.sub (ws' := [(mo, mo_ fg le sg tp bl pr rs (((nn : Nat) : Int)) (dn) (sv) (rk) (tn) (ms) (th)), (fg, aI cI (52200) (F)), (le, aI cI (190) (Ln)), (sg, aI cI (90) (Sg)), (tp, aI cI (1300) (T0)), (bl, aI cI (1300) (B0)), (pr, aI cI (6) (PR))]) [0, 1, 2, 3, 4, 5, 6] (by decide) rfl
    refine zr_if_eq hx hb 20 ⟨by omega, by omega⟩ dX11_solution_13 (by decide) (fun h_13 => ?_) (fun h_13 => ?_)
    · refine lv_aload_n hx hb dX11_solution_20 rfl (lv_at hl 0 rfl) ?_
      refine va_get (D := D) (ci := 11) (v := .int (iZ (dn))) (C := RX11) (T := TX11) (N := 14) hx hb hts hin11 hown hK hP 0 rfl rfl 6 (by decide) q_f_RX11_109_LimbSolverModel_done_Z (fun _ h9 => h9) rfl dX11_solution_21 ?_
      refine zr_if_eq hx hb 34 ⟨by omega, by omega⟩ dX11_solution_24 (by decide) (fun h_24 => ?_) (fun h_24 => ?_)
      · refine lv_iconst (v := iZ 2) hx hb dX11_solution_34 rfl ?_
        refine lv_goto (tgt := 39) hx hb dX11_solution_35 (by decide) ?_
        refine va_put (D := D) (ci := 11) (v := .int (iZ (2))) (ty := tyX11 12) (C := RX11) (T := TX11) (N := 14) hx hb hts hin11 tyX11 tyX11_ok nmX11 hown hK hP hD hS 0 rfl rfl 12 (by decide) q_f_RX11_40_LimbSolverModel_thrown_I (fun _ h9 => h9) rfl (tyX11_ok 12 (by decide)) rfl rfl (Nat.le_of_ble_eq_true rfl) dX11_solution_39 (fun H locs hP hD hS => ?_)
        have hP : va_P D vwCl [(mo, mo_ fg le sg tp bl pr rs (((nn : Nat) : Int)) (dn) (sv) (rk) (tn) (ms) (2)), (fg, aI cI (52200) (F)), (le, aI cI (190) (Ln)), (sg, aI cI (90) (Sg)), (tp, aI cI (1300) (T0)), (bl, aI cI (1300) (B0)), (pr, aI cI (6) (PR))] H := hP
        have hD : va_D A [(mo, mo_ fg le sg tp bl pr rs (((nn : Nat) : Int)) (dn) (sv) (rk) (tn) (ms) (2)), (fg, aI cI (52200) (F)), (le, aI cI (190) (Ln)), (sg, aI cI (90) (Sg)), (tp, aI cI (1300) (T0)), (bl, aI cI (1300) (B0)), (pr, aI cI (6) (PR))] := hD
        refine lv_aload_n hx hb dX11_solution_42 rfl (lv_at hl 0 rfl) ?_
        refine va_get (D := D) (ci := 11) (v := .int (iZ (2))) (C := RX11) (T := TX11) (N := 14) hx hb hts hin11 hown hK hP 0 rfl rfl 12 (by decide) q_f_RX11_40_LimbSolverModel_thrown_I (fun _ h9 => h9) rfl dX11_solution_43 ?_
        refine zr_if_le hx hb 51 ⟨by omega, by omega⟩ dX11_solution_46 (by decide) (fun h_46 => ?_) (fun h_46 => ?_)
        · exfalso; omega
        · refine lv_iconst (v := iZ 0) hx hb dX11_solution_49 rfl ?_
          exact zr_iret hQ hx hb hr hlk dX11_solution_50 hK hP hD hS (by omega) (by omega) (by decide) (⟨F, Ln, Sg, T0, B0, 2, rfl, (fun g _ _ => md_ef.refl F Ln Sg g), Or.inr (Or.inl ⟨by omega, by omega, rfl⟩)⟩)
      · refine lv_aload_n hx hb dX11_solution_27 rfl (lv_at hl 0 rfl) ?_
        refine va_get (D := D) (ci := 11) (v := .int (iZ (sv))) (C := RX11) (T := TX11) (N := 14) hx hb hts hin11 hown hK hP 0 rfl rfl 7 (by decide) q_f_RX11_151_LimbSolverModel_solvable_Z (fun _ h9 => h9) rfl dX11_solution_28 ?_
        refine zr_if_ne hx hb 38 ⟨by omega, by omega⟩ dX11_solution_31 (by decide) (fun h_31 => ?_) (fun h_31 => ?_)
        · refine lv_iconst (v := iZ 0) hx hb dX11_solution_38 rfl ?_
          refine va_put (D := D) (ci := 11) (v := .int (iZ (0))) (ty := tyX11 12) (C := RX11) (T := TX11) (N := 14) hx hb hts hin11 tyX11 tyX11_ok nmX11 hown hK hP hD hS 0 rfl rfl 12 (by decide) q_f_RX11_40_LimbSolverModel_thrown_I (fun _ h9 => h9) rfl (tyX11_ok 12 (by decide)) rfl rfl (Nat.le_of_ble_eq_true rfl) dX11_solution_39 (fun H locs hP hD hS => ?_)
          have hP : va_P D vwCl [(mo, mo_ fg le sg tp bl pr rs (((nn : Nat) : Int)) (dn) (sv) (rk) (tn) (ms) (0)), (fg, aI cI (52200) (F)), (le, aI cI (190) (Ln)), (sg, aI cI (90) (Sg)), (tp, aI cI (1300) (T0)), (bl, aI cI (1300) (B0)), (pr, aI cI (6) (PR))] H := hP
          have hD : va_D A [(mo, mo_ fg le sg tp bl pr rs (((nn : Nat) : Int)) (dn) (sv) (rk) (tn) (ms) (0)), (fg, aI cI (52200) (F)), (le, aI cI (190) (Ln)), (sg, aI cI (90) (Sg)), (tp, aI cI (1300) (T0)), (bl, aI cI (1300) (B0)), (pr, aI cI (6) (PR))] := hD
          refine lv_aload_n hx hb dX11_solution_42 rfl (lv_at hl 0 rfl) ?_
          refine va_get (D := D) (ci := 11) (v := .int (iZ (0))) (C := RX11) (T := TX11) (N := 14) hx hb hts hin11 hown hK hP 0 rfl rfl 12 (by decide) q_f_RX11_40_LimbSolverModel_thrown_I (fun _ h9 => h9) rfl dX11_solution_43 ?_
          refine zr_if_le hx hb 51 ⟨by omega, by omega⟩ dX11_solution_46 (by decide) (fun h_46 => ?_) (fun h_46 => ?_)
          · refine lv_aload_n hx hb dX11_solution_51 rfl (lv_at hl 0 rfl) ?_
            refine lv_iload_n hx hb dX11_solution_52 rfl (lv_at hl 1 rfl) ?_
            refine zr_eqi (((y1.toNat : Nat) : Int)) (by omega) ?_
            refine zc_Vv (As := [.int (iZ (((y1.toNat : Nat) : Int)))]) (rest := []) (wr := []) ⟨hx, hb, hml, hown, hts⟩ (c_solve l D cI cJ cE cF cR mo fg le sg tp bl pr rs nn dn sv rk tn ms (0) (y1.toNat) F Ln Sg T0 B0 PR V (pe V nn nn) hn hT hVs (hDn (by omega)) (by omega)) (cwV 1 hts gX11_solution_X11_solve rfl rfl rfl (by decide +kernel) ⟨Nat.le_of_ble_eq_true rfl, Nat.le_of_ble_eq_true rfl⟩) hN hK hP hD hS hA [0, 1, 2, 3, 4, 5, 6] [] rfl rfl (by decide) (by decide) (by decide) (q0 := 0) (ci := 11) rfl rfl rfl rfl hl.1 (Nat.le_of_ble_eq_true rfl) dX11_solution_53 ⟨by decide, by decide⟩ (fun w1 H locs hp hP hD hS => ?_)
            obtain ⟨G, L1, S1, T1, B1, hw9, hk1, hf1⟩ := hp
            subst hw9
            have hP := hP.sub (ws' := [(mo, mo_ fg le sg tp bl pr rs (((nn : Nat) : Int)) (dn) (sv) (rk) (tn) (ms) (0)), (fg, aI cI (52200) (G)), (le, aI cI (190) (L1)), (sg, aI cI (90) (S1)), (tp, aI cI (1300) (T1)), (bl, aI cI (1300) (B1)), (pr, aI cI (6) (PR))]) [0, 1, 2, 3, 4, 5, 6] rfl
            have hD := hD.sub (ws' := [(mo, mo_ fg le sg tp bl pr rs (((nn : Nat) : Int)) (dn) (sv) (rk) (tn) (ms) (0)), (fg, aI cI (52200) (G)), (le, aI cI (190) (L1)), (sg, aI cI (90) (S1)), (tp, aI cI (1300) (T1)), (bl, aI cI (1300) (B1)), (pr, aI cI (6) (PR))]) [0, 1, 2, 3, 4, 5, 6] (by decide) rfl
            refine lv_aload_n hx hb dX11_solution_56 rfl (lv_at hl 0 rfl) ?_
            refine lv_bipush (v := iZ 85) hx hb dX11_solution_57 (by decide) ?_
            refine zr_eqi (((85 : Nat) : Int)) (by rfl) ?_
            refine lv_iload_n hx hb dX11_solution_59 rfl (lv_at hl 2 rfl) ?_
            refine lv_iload_n hx hb dX11_solution_60 rfl (lv_at hl 3 rfl) ?_
            refine zc_Vi (As := [.int (iZ (((85 : Nat) : Int))), .int (iZ (y2)), .int (iZ (y3))]) (rest := []) (wr := [(tp, aI cI (1300) (T1)), (bl, aI cI (1300) (B1)), (pr, aI cI (6) (PR))]) ⟨hx, hb, hml, hown, hts⟩ (c_mpart l D cI cJ cE cF cR mo fg le sg tp bl pr rs ((nn : Nat) : Int) dn sv rk tn ms (0) (85) y2 y3 G L1 S1 (pe_x (pe V nn nn) nn y1.toNat) (by omega) hy2 hy3 (hf1)) (cwV 3 hts gX11_solution_X11_part rfl rfl rfl (by decide +kernel) ⟨Nat.le_of_ble_eq_true rfl, Nat.le_of_ble_eq_true rfl⟩) hN hK hP hD hS hA [0, 1, 2, 3] [4, 5, 6] rfl rfl (by decide) (by decide) (by decide) (q0 := 0) (ci := 11) rfl rfl rfl rfl hl.1 (Nat.le_of_ble_eq_true rfl) dX11_solution_61 ⟨by decide, by decide⟩ (fun rv w1 H locs hz61 hp hP hD hS => ?_)
            obtain ⟨hw9, hr0⟩ := hp
            subst hw9
            have hP := hP.sub (ws' := [(mo, mo_ fg le sg tp bl pr rs (((nn : Nat) : Int)) (dn) (sv) (rk) (tn) (ms) (0)), (fg, aI cI (52200) (G)), (le, aI cI (190) (L1)), (sg, aI cI (90) (S1)), (tp, aI cI (1300) (T1)), (bl, aI cI (1300) (B1)), (pr, aI cI (6) (PR))]) [3, 4, 5, 6, 0, 1, 2] rfl
            have hD := hD.sub (ws' := [(mo, mo_ fg le sg tp bl pr rs (((nn : Nat) : Int)) (dn) (sv) (rk) (tn) (ms) (0)), (fg, aI cI (52200) (G)), (le, aI cI (190) (L1)), (sg, aI cI (90) (S1)), (tp, aI cI (1300) (T1)), (bl, aI cI (1300) (B1)), (pr, aI cI (6) (PR))]) [3, 4, 5, 6, 0, 1, 2] (by decide) rfl
            exact zr_iret hQ hx hb hr hlk dX11_solution_64 hK hP hD hS (by omega) (by omega) hz61 (⟨G, L1, S1, T1, B1, 0, rfl, (fun g g1 g2 => hk1 g g1 (by omega)), Or.inr (Or.inr ⟨by omega, by omega, by omega, rfl, hr0⟩)⟩)
          · exfalso; omega
        · refine lv_iconst (v := iZ 2) hx hb dX11_solution_34 rfl ?_
          refine lv_goto (tgt := 39) hx hb dX11_solution_35 (by decide) ?_
          refine va_put (D := D) (ci := 11) (v := .int (iZ (2))) (ty := tyX11 12) (C := RX11) (T := TX11) (N := 14) hx hb hts hin11 tyX11 tyX11_ok nmX11 hown hK hP hD hS 0 rfl rfl 12 (by decide) q_f_RX11_40_LimbSolverModel_thrown_I (fun _ h9 => h9) rfl (tyX11_ok 12 (by decide)) rfl rfl (Nat.le_of_ble_eq_true rfl) dX11_solution_39 (fun H locs hP hD hS => ?_)
          have hP : va_P D vwCl [(mo, mo_ fg le sg tp bl pr rs (((nn : Nat) : Int)) (dn) (sv) (rk) (tn) (ms) (2)), (fg, aI cI (52200) (F)), (le, aI cI (190) (Ln)), (sg, aI cI (90) (Sg)), (tp, aI cI (1300) (T0)), (bl, aI cI (1300) (B0)), (pr, aI cI (6) (PR))] H := hP
          have hD : va_D A [(mo, mo_ fg le sg tp bl pr rs (((nn : Nat) : Int)) (dn) (sv) (rk) (tn) (ms) (2)), (fg, aI cI (52200) (F)), (le, aI cI (190) (Ln)), (sg, aI cI (90) (Sg)), (tp, aI cI (1300) (T0)), (bl, aI cI (1300) (B0)), (pr, aI cI (6) (PR))] := hD
          refine lv_aload_n hx hb dX11_solution_42 rfl (lv_at hl 0 rfl) ?_
          refine va_get (D := D) (ci := 11) (v := .int (iZ (2))) (C := RX11) (T := TX11) (N := 14) hx hb hts hin11 hown hK hP 0 rfl rfl 12 (by decide) q_f_RX11_40_LimbSolverModel_thrown_I (fun _ h9 => h9) rfl dX11_solution_43 ?_
          refine zr_if_le hx hb 51 ⟨by omega, by omega⟩ dX11_solution_46 (by decide) (fun h_46 => ?_) (fun h_46 => ?_)
          · exfalso; omega
          · refine lv_iconst (v := iZ 0) hx hb dX11_solution_49 rfl ?_
            exact zr_iret hQ hx hb hr hlk dX11_solution_50 hK hP hD hS (by omega) (by omega) (by decide) (⟨F, Ln, Sg, T0, B0, 2, rfl, (fun g _ _ => md_ef.refl F Ln Sg g), Or.inr (Or.inl ⟨by omega, by omega, rfl⟩)⟩)
    · refine lv_iconst (v := iZ 1) hx hb dX11_solution_16 rfl ?_
      refine lv_goto (tgt := 39) hx hb dX11_solution_17 (by decide) ?_
      refine va_put (D := D) (ci := 11) (v := .int (iZ (1))) (ty := tyX11 12) (C := RX11) (T := TX11) (N := 14) hx hb hts hin11 tyX11 tyX11_ok nmX11 hown hK hP hD hS 0 rfl rfl 12 (by decide) q_f_RX11_40_LimbSolverModel_thrown_I (fun _ h9 => h9) rfl (tyX11_ok 12 (by decide)) rfl rfl (Nat.le_of_ble_eq_true rfl) dX11_solution_39 (fun H locs hP hD hS => ?_)
      have hP : va_P D vwCl [(mo, mo_ fg le sg tp bl pr rs (((nn : Nat) : Int)) (dn) (sv) (rk) (tn) (ms) (1)), (fg, aI cI (52200) (F)), (le, aI cI (190) (Ln)), (sg, aI cI (90) (Sg)), (tp, aI cI (1300) (T0)), (bl, aI cI (1300) (B0)), (pr, aI cI (6) (PR))] H := hP
      have hD : va_D A [(mo, mo_ fg le sg tp bl pr rs (((nn : Nat) : Int)) (dn) (sv) (rk) (tn) (ms) (1)), (fg, aI cI (52200) (F)), (le, aI cI (190) (Ln)), (sg, aI cI (90) (Sg)), (tp, aI cI (1300) (T0)), (bl, aI cI (1300) (B0)), (pr, aI cI (6) (PR))] := hD
      refine lv_aload_n hx hb dX11_solution_42 rfl (lv_at hl 0 rfl) ?_
      refine va_get (D := D) (ci := 11) (v := .int (iZ (1))) (C := RX11) (T := TX11) (N := 14) hx hb hts hin11 hown hK hP 0 rfl rfl 12 (by decide) q_f_RX11_40_LimbSolverModel_thrown_I (fun _ h9 => h9) rfl dX11_solution_43 ?_
      refine zr_if_le hx hb 51 ⟨by omega, by omega⟩ dX11_solution_46 (by decide) (fun h_46 => ?_) (fun h_46 => ?_)
      · exfalso; omega
      · refine lv_iconst (v := iZ 0) hx hb dX11_solution_49 rfl ?_
        exact zr_iret hQ hx hb hr hlk dX11_solution_50 hK hP hD hS (by omega) (by omega) (by decide) (⟨F, Ln, Sg, T0, B0, 1, rfl, (fun g _ _ => md_ef.refl F Ln Sg g), Or.inl ⟨by omega, rfl⟩⟩)

set_option maxHeartbeats 4000000 in
set_option maxRecDepth 100000 in
/-- Model.isRight -/
theorem c_misRight (l : Launch) (D : va_G) (cI cJ cE cF cR : ClassId) (mo fg le sg tp bl pr rs nn : Nat) (dn sv rk tn ms th : Int) (y1 : Int) (F Ln Sg T0 B0 PR : Nat → Int) (V : Nat → Rat) (hR : md_R V nn dn sv rk ms F Ln Sg PR) (hy1 : iR y1) : Ci l D (zty cI cJ cE cF cR) yX11_isRight wsX11_isRight (zRm 9 290) 0 0 [.ref (mo), .int (iZ (y1))] [(mo, mo_ fg le sg tp bl pr rs (((nn : Nat) : Int)) (dn) (sv) (rk) (tn) (ms) (th)), (fg, aI cI (52200) (F)), (le, aI cI (190) (Ln)), (sg, aI cI (90) (Sg)), (tp, aI cI (1300) (T0)), (bl, aI cI (1300) (B0)), (pr, aI cI (6) (PR))] (fun r w1 => ∃ (G L1 S1 T1 B1 : Nat → Int) (tc : Int), w1 = [(mo, mo_ fg le sg tp bl pr rs (((nn : Nat) : Int)) (dn) (sv) (rk) (tn) (ms) (tc)), (fg, aI cI (52200) (G)), (le, aI cI (190) (L1)), (sg, aI cI (90) (S1)), (tp, aI cI (1300) (T1)), (bl, aI cI (1300) (B1)), (pr, aI cI (6) (PR))] ∧ (∀ g : Nat, g < 90 → g < 85 → md_ef F Ln Sg G L1 S1 g) ∧ (((y1 < 0 ∨ (nn : Int) ≤ y1) ∧ tc = 1) ∨ (¬ (y1 < 0 ∨ (nn : Int) ≤ y1) ∧ (dn = 0 ∨ sv = 0) ∧ tc = 2) ∨ (¬ (y1 < 0 ∨ (nn : Int) ≤ y1) ∧ dn = 1 ∧ sv = 1 ∧ tc = 0 ∧ r = if pe_rs V (pe V nn nn) nn y1.toNat nn = V (7 * y1.toNat + nn) then 1 else 0))) := by
  unfold Ci
  refine zs (Qc := zQi D _ _) (cc := cX11_isRight) (maxL := 3) (ret := (some .boolean)) (by decide) rfl (Nat.le_of_ble_eq_true rfl) ?_
  intro zp ze s zm below meth zc ls A args Q hQ hx hb hr hts hown hlk hml hnm hN hA hK hP hD hS hl
  have q_f_RX11_26_LimbSolverModel_n_I := hts (.fieldLink RX11 26 "LimbSolverModel" "n" "I") (by decide +kernel)
  have hin11 : ∀ w ∈ wsX110, w ∈ wsX11_isRight := by decide +kernel
  have q_f_RX11_109_LimbSolverModel_done_Z := hts (.fieldLink RX11 109 "LimbSolverModel" "done" "Z") (by decide +kernel)
  have q_f_RX11_151_LimbSolverModel_solvable_Z := hts (.fieldLink RX11 151 "LimbSolverModel" "solvable" "Z") (by decide +kernel)
  have q_f_RX11_40_LimbSolverModel_thrown_I := hts (.fieldLink RX11 40 "LimbSolverModel" "thrown" "I") (by decide +kernel)
  have hl : lv_has ls 3 [(0, .ref (mo)), (1, .int (iZ (y1)))] := hl
  obtain ⟨⟨h1n, hn, hT⟩, hAA, _⟩ := id hR
  obtain ⟨hdn, hsv, hrk, hDn⟩ := hR.dn
  have hy11 := hy1.1
  have hy12 := hy1.2
  have hVs := pe_ok hT h1n hn nn (Nat.le_refl nn)
  by_cases hgd : (0 ≤ y1 ∧ y1 < (nn : Int)) ∧ dn = 1 ∧ sv = 1
  · skip
    have lp : ∀ (t : Nat) (j : Nat) (G : Nat → Int) (L1 : Nat → Int) (S1 : Nat → Int) (T1 : Nat → Int) (B1 : Nat → Int) (H : Heap) (locs : List Loc) (ls : Array Slot), (j + t = nn) → ((∀ g : Nat, g < 90 → g < 85 → md_ef F Ln Sg G L1 S1 g)) → (md_f G L1 S1 86 (pe_rs V (pe V nn nn) nn y1.toNat j)) →  va_P D vwCl [(mo, mo_ fg le sg tp bl pr rs (((nn : Nat) : Int)) (dn) (sv) (rk) (tn) (ms) (0)), (fg, aI cI (52200) (G)), (le, aI cI (190) (L1)), (sg, aI cI (90) (S1)), (tp, aI cI (1300) (T1)), (bl, aI cI (1300) (B1)), (pr, aI cI (6) (PR))] H → va_D A [(mo, mo_ fg le sg tp bl pr rs (((nn : Nat) : Int)) (dn) (sv) (rk) (tn) (ms) (0)), (fg, aI cI (52200) (G)), (le, aI cI (190) (L1)), (sg, aI cI (90) (S1)), (tp, aI cI (1300) (T1)), (bl, aI cI (1300) (B1)), (pr, aI cI (6) (PR))] → va_S A s.heap H locs → lv_has ls 3 [(2, .int (iZ (((j : Nat) : Int)))), (0, .ref (mo)), (1, .int (iZ (y1)))] → W zp l ze (zRm 9 290) s zm args below meth zc H locs 0 0 Q (F0 zm 56 ls []) := by
      intro t
      induction t with
      | zero =>
        intro j G L1 S1 T1 B1 H locs ls hjt hke hr2 hP hD hS hl
        refine lv_iload_n hx hb dX11_isRight_56 rfl (lv_at hl 0 rfl) ?_
        refine lv_aload_n hx hb dX11_isRight_57 rfl (lv_at hl 1 rfl) ?_
        refine va_get (D := D) (ci := 11) (v := .int (iZ (((nn : Nat) : Int)))) (C := RX11) (T := TX11) (N := 14) hx hb hts hin11 hown hK hP 0 rfl rfl 5 (by decide) q_f_RX11_26_LimbSolverModel_n_I (fun _ h9 => h9) rfl dX11_isRight_58 ?_
        refine zr_icmp_ge hx hb 107 ⟨by omega, by omega⟩ ⟨by omega, by omega⟩ dX11_isRight_61 (by decide) (fun h_61 => ?_) (fun h_61 => ?_)
        · refine lv_aload_n hx hb dX11_isRight_107 rfl (lv_at hl 1 rfl) ?_
          refine lv_bipush (v := iZ 86) hx hb dX11_isRight_108 (by decide) ?_
          refine zr_eqi (((86 : Nat) : Int)) (by rfl) ?_
          refine lv_iload_n hx hb dX11_isRight_110 rfl (lv_at hl 2 rfl) ?_
          refine zr_eqi (((y1.toNat : Nat) : Int)) (by omega) ?_
          refine lv_aload_n hx hb dX11_isRight_111 rfl (lv_at hl 1 rfl) ?_
          refine va_get (D := D) (ci := 11) (v := .int (iZ (((nn : Nat) : Int)))) (C := RX11) (T := TX11) (N := 14) hx hb hts hin11 hown hK hP 0 rfl rfl 5 (by decide) q_f_RX11_26_LimbSolverModel_n_I (fun _ h9 => h9) rfl dX11_isRight_112 ?_
          refine zc_Si (As := [.int (iZ (((y1.toNat : Nat) : Int))), .int (iZ (((nn : Nat) : Int)))]) (rest := [.int (iZ (((86 : Nat) : Int))), .ref (mo)]) (wr := [(mo, mo_ fg le sg tp bl pr rs (((nn : Nat) : Int)) (dn) (sv) (rk) (tn) (ms) (0)), (fg, aI cI (52200) (G)), (le, aI cI (190) (L1)), (sg, aI cI (90) (S1)), (tp, aI cI (1300) (T1)), (bl, aI cI (1300) (B1)), (pr, aI cI (6) (PR))]) ⟨hx, hb, hml, hown, hts⟩ (c_place l D cI cJ cE cF cR (y1.toNat) (nn) (by omega) (by omega)) (va_cwS 2 hts gX11_isRight_X11_place rfl rfl rfl (by decide +kernel) ⟨Nat.le_of_ble_eq_true rfl, Nat.le_of_ble_eq_true rfl⟩) hN hK hP hD hS hA [] [0, 1, 2, 3, 4, 5, 6] rfl rfl (by decide) (by decide) (by decide) rfl hl.1 (Nat.le_of_ble_eq_true rfl) dX11_isRight_115 ⟨by decide, by decide⟩ (fun z115 w1 H locs hz115 hp hP hD hS => ?_)
          obtain ⟨hw9, hx0⟩ := hp
          subst hw9
          subst hx0
          have hP := hP.sub (ws' := [(mo, mo_ fg le sg tp bl pr rs (((nn : Nat) : Int)) (dn) (sv) (rk) (tn) (ms) (0)), (fg, aI cI (52200) (G)), (le, aI cI (190) (L1)), (sg, aI cI (90) (S1)), (tp, aI cI (1300) (T1)), (bl, aI cI (1300) (B1)), (pr, aI cI (6) (PR))]) [0, 1, 2, 3, 4, 5, 6] rfl
          have hD := hD.sub (ws' := [(mo, mo_ fg le sg tp bl pr rs (((nn : Nat) : Int)) (dn) (sv) (rk) (tn) (ms) (0)), (fg, aI cI (52200) (G)), (le, aI cI (190) (L1)), (sg, aI cI (90) (S1)), (tp, aI cI (1300) (T1)), (bl, aI cI (1300) (B1)), (pr, aI cI (6) (PR))]) [0, 1, 2, 3, 4, 5, 6] (by decide) rfl
          refine zc_Vi (As := [.int (iZ (((86 : Nat) : Int))), .int (iZ (((7 * y1.toNat + nn : Nat) : Int)))]) (rest := []) (wr := [(tp, aI cI (1300) (T1)), (bl, aI cI (1300) (B1)), (pr, aI cI (6) (PR))]) ⟨hx, hb, hml, hown, hts⟩ (c_misSame l D cI cJ cE cF cR mo fg le sg tp bl pr rs ((nn : Nat) : Int) dn sv rk tn ms (0) 86 (7 * y1.toNat + nn) G L1 S1 (pe_rs V (pe V nn nn) nn y1.toNat nn) (V (7 * y1.toNat + nn)) (by decide) (by omega) (by rw [← show j = nn by omega]; rw [show j = nn by omega] at hr2; rw [show j = nn by omega]; exact hr2) ((hke _ (by omega) (by omega)).f (hAA.at0 (by omega)))) (cwV 2 hts gX11_isRight_X11_isSame rfl rfl rfl (by decide +kernel) ⟨Nat.le_of_ble_eq_true rfl, Nat.le_of_ble_eq_true rfl⟩) hN hK hP hD hS hA [0, 1, 2, 3] [4, 5, 6] rfl rfl (by decide) (by decide) (by decide) (q0 := 0) (ci := 11) rfl rfl rfl rfl hl.1 (Nat.le_of_ble_eq_true rfl) dX11_isRight_118 ⟨by decide, by decide⟩ (fun rv w1 H locs hz118 hp hP hD hS => ?_)
          obtain ⟨hw9, hr0⟩ := hp
          subst hw9
          have hP := hP.sub (ws' := [(mo, mo_ fg le sg tp bl pr rs (((nn : Nat) : Int)) (dn) (sv) (rk) (tn) (ms) (0)), (fg, aI cI (52200) (G)), (le, aI cI (190) (L1)), (sg, aI cI (90) (S1)), (tp, aI cI (1300) (T1)), (bl, aI cI (1300) (B1)), (pr, aI cI (6) (PR))]) [3, 4, 5, 6, 0, 1, 2] rfl
          have hD := hD.sub (ws' := [(mo, mo_ fg le sg tp bl pr rs (((nn : Nat) : Int)) (dn) (sv) (rk) (tn) (ms) (0)), (fg, aI cI (52200) (G)), (le, aI cI (190) (L1)), (sg, aI cI (90) (S1)), (tp, aI cI (1300) (T1)), (bl, aI cI (1300) (B1)), (pr, aI cI (6) (PR))]) [3, 4, 5, 6, 0, 1, 2] (by decide) rfl
          exact zr_zret hQ hx hb hr hlk dX11_isRight_121 hK hP hD hS (by omega) (by omega) ((by rw [hr0]; split <;> decide)) (⟨G, L1, S1, T1, B1, 0, rfl, hke, Or.inr (Or.inr ⟨by omega, by omega, by omega, rfl, hr0⟩)⟩)
        · exfalso; omega
      | succ t ih =>
        intro j G L1 S1 T1 B1 H locs ls hjt hke hr2 hP hD hS hl
        refine lv_iload_n hx hb dX11_isRight_56 rfl (lv_at hl 0 rfl) ?_
        refine lv_aload_n hx hb dX11_isRight_57 rfl (lv_at hl 1 rfl) ?_
        refine va_get (D := D) (ci := 11) (v := .int (iZ (((nn : Nat) : Int)))) (C := RX11) (T := TX11) (N := 14) hx hb hts hin11 hown hK hP 0 rfl rfl 5 (by decide) q_f_RX11_26_LimbSolverModel_n_I (fun _ h9 => h9) rfl dX11_isRight_58 ?_
        refine zr_icmp_ge hx hb 107 ⟨by omega, by omega⟩ ⟨by omega, by omega⟩ dX11_isRight_61 (by decide) (fun h_61 => ?_) (fun h_61 => ?_)
        · exfalso; omega
        · have hb1 := pe_x83 hT hn hVs (j := j) (by omega)
          have hb2 := pe_V2 hT (i := y1.toNat) (j := j) (by omega) (by omega)
          have hb3 := pe_rs_b hT hn hVs (i := y1.toNat) (by omega) j (by omega)
          have hb4 := md_mulq hb1.1 hb1.2 hb2.1 hb2.2
          refine lv_aload_n hx hb dX11_isRight_64 rfl (lv_at hl 1 rfl) ?_
          refine lv_iload_n hx hb dX11_isRight_65 rfl (lv_at hl 0 rfl) ?_
          refine zc_Vv (As := [.int (iZ (((j : Nat) : Int)))]) (rest := []) (wr := []) ⟨hx, hb, hml, hown, hts⟩ (c_solve l D cI cJ cE cF cR mo fg le sg tp bl pr rs nn dn sv rk tn ms (0) (j) G L1 S1 T1 B1 PR V (pe V nn nn) hn hT hVs ((hDn (by omega)).keep hke) (by omega)) (cwV 1 hts gX11_isRight_X11_solve rfl rfl rfl (by decide +kernel) ⟨Nat.le_of_ble_eq_true rfl, Nat.le_of_ble_eq_true rfl⟩) hN hK hP hD hS hA [0, 1, 2, 3, 4, 5, 6] [] rfl rfl (by decide) (by decide) (by decide) (q0 := 0) (ci := 11) rfl rfl rfl rfl hl.1 (Nat.le_of_ble_eq_true rfl) dX11_isRight_66 ⟨by decide, by decide⟩ (fun w1 H locs hp hP hD hS => ?_)
          obtain ⟨Gx, L1x, S1x, T1x, B1x, hw9, hk1, hf1⟩ := hp
          subst hw9
          have hP := hP.sub (ws' := [(mo, mo_ fg le sg tp bl pr rs (((nn : Nat) : Int)) (dn) (sv) (rk) (tn) (ms) (0)), (fg, aI cI (52200) (Gx)), (le, aI cI (190) (L1x)), (sg, aI cI (90) (S1x)), (tp, aI cI (1300) (T1x)), (bl, aI cI (1300) (B1x)), (pr, aI cI (6) (PR))]) [0, 1, 2, 3, 4, 5, 6] rfl
          have hD := hD.sub (ws' := [(mo, mo_ fg le sg tp bl pr rs (((nn : Nat) : Int)) (dn) (sv) (rk) (tn) (ms) (0)), (fg, aI cI (52200) (Gx)), (le, aI cI (190) (L1x)), (sg, aI cI (90) (S1x)), (tp, aI cI (1300) (T1x)), (bl, aI cI (1300) (B1x)), (pr, aI cI (6) (PR))]) [0, 1, 2, 3, 4, 5, 6] (by decide) rfl
          refine lv_aload_n hx hb dX11_isRight_69 rfl (lv_at hl 1 rfl) ?_
          refine lv_bipush (v := iZ 87) hx hb dX11_isRight_70 (by decide) ?_
          refine zr_eqi (((87 : Nat) : Int)) (by rfl) ?_
          refine lv_bipush (v := iZ 85) hx hb dX11_isRight_72 (by decide) ?_
          refine zr_eqi (((85 : Nat) : Int)) (by rfl) ?_
          refine lv_iload_n hx hb dX11_isRight_74 rfl (lv_at hl 2 rfl) ?_
          refine zr_eqi (((y1.toNat : Nat) : Int)) (by omega) ?_
          refine lv_iload_n hx hb dX11_isRight_75 rfl (lv_at hl 0 rfl) ?_
          refine zc_Si (As := [.int (iZ (((y1.toNat : Nat) : Int))), .int (iZ (((j : Nat) : Int)))]) (rest := [.int (iZ (((85 : Nat) : Int))), .int (iZ (((87 : Nat) : Int))), .ref (mo)]) (wr := [(mo, mo_ fg le sg tp bl pr rs (((nn : Nat) : Int)) (dn) (sv) (rk) (tn) (ms) (0)), (fg, aI cI (52200) (Gx)), (le, aI cI (190) (L1x)), (sg, aI cI (90) (S1x)), (tp, aI cI (1300) (T1x)), (bl, aI cI (1300) (B1x)), (pr, aI cI (6) (PR))]) ⟨hx, hb, hml, hown, hts⟩ (c_place l D cI cJ cE cF cR (y1.toNat) (j) (by omega) (by omega)) (va_cwS 2 hts gX11_isRight_X11_place rfl rfl rfl (by decide +kernel) ⟨Nat.le_of_ble_eq_true rfl, Nat.le_of_ble_eq_true rfl⟩) hN hK hP hD hS hA [] [0, 1, 2, 3, 4, 5, 6] rfl rfl (by decide) (by decide) (by decide) rfl hl.1 (Nat.le_of_ble_eq_true rfl) dX11_isRight_76 ⟨by decide, by decide⟩ (fun z76 w1 H locs hz76 hp hP hD hS => ?_)
          obtain ⟨hw9, hx0⟩ := hp
          subst hw9
          subst hx0
          have hP := hP.sub (ws' := [(mo, mo_ fg le sg tp bl pr rs (((nn : Nat) : Int)) (dn) (sv) (rk) (tn) (ms) (0)), (fg, aI cI (52200) (Gx)), (le, aI cI (190) (L1x)), (sg, aI cI (90) (S1x)), (tp, aI cI (1300) (T1x)), (bl, aI cI (1300) (B1x)), (pr, aI cI (6) (PR))]) [0, 1, 2, 3, 4, 5, 6] rfl
          have hD := hD.sub (ws' := [(mo, mo_ fg le sg tp bl pr rs (((nn : Nat) : Int)) (dn) (sv) (rk) (tn) (ms) (0)), (fg, aI cI (52200) (Gx)), (le, aI cI (190) (L1x)), (sg, aI cI (90) (S1x)), (tp, aI cI (1300) (T1x)), (bl, aI cI (1300) (B1x)), (pr, aI cI (6) (PR))]) [0, 1, 2, 3, 4, 5, 6] (by decide) rfl
          refine zc_Vv (As := [.int (iZ (((87 : Nat) : Int))), .int (iZ (((85 : Nat) : Int))), .int (iZ (((7 * y1.toNat + j : Nat) : Int)))]) (rest := []) (wr := [(pr, aI cI (6) (PR))]) ⟨hx, hb, hml, hown, hts⟩ (c_mproduct l D cI cJ cE cF cR mo fg le sg tp bl pr rs ((nn : Nat) : Int) dn sv rk tn ms (0) 87 85 (7 * y1.toNat + j) 83 2 Gx L1x S1x T1x B1x (pe_x (pe V nn nn) nn j) (V (7 * y1.toNat + j)) (by decide) (by decide) (by omega) hf1 ((hk1 _ (by omega) (by omega)).f ((hke _ (by omega) (by omega)).f (hAA.at0 (by omega)))) hb1.1 hb1.2 hb2.1 hb2.2 (by decide)) (cwV 3 hts gX11_isRight_X11_product rfl rfl rfl (by decide +kernel) ⟨Nat.le_of_ble_eq_true rfl, Nat.le_of_ble_eq_true rfl⟩) hN hK hP hD hS hA [0, 1, 2, 3, 4, 5] [6] rfl rfl (by decide) (by decide) (by decide) (q0 := 0) (ci := 11) rfl rfl rfl rfl hl.1 (Nat.le_of_ble_eq_true rfl) dX11_isRight_79 ⟨by decide, by decide⟩ (fun w1 H locs hp hP hD hS => ?_)
          obtain ⟨F2, L2, S2, T2, B2, hw9, hk2, hf2⟩ := hp
          subst hw9
          have hP := hP.sub (ws' := [(mo, mo_ fg le sg tp bl pr rs (((nn : Nat) : Int)) (dn) (sv) (rk) (tn) (ms) (0)), (fg, aI cI (52200) (F2)), (le, aI cI (190) (L2)), (sg, aI cI (90) (S2)), (tp, aI cI (1300) (T2)), (bl, aI cI (1300) (B2)), (pr, aI cI (6) (PR))]) [1, 2, 3, 4, 5, 6, 0] rfl
          have hD := hD.sub (ws' := [(mo, mo_ fg le sg tp bl pr rs (((nn : Nat) : Int)) (dn) (sv) (rk) (tn) (ms) (0)), (fg, aI cI (52200) (F2)), (le, aI cI (190) (L2)), (sg, aI cI (90) (S2)), (tp, aI cI (1300) (T2)), (bl, aI cI (1300) (B2)), (pr, aI cI (6) (PR))]) [1, 2, 3, 4, 5, 6, 0] (by decide) rfl
          refine lv_aload_n hx hb dX11_isRight_82 rfl (lv_at hl 1 rfl) ?_
          refine lv_bipush (v := iZ 88) hx hb dX11_isRight_83 (by decide) ?_
          refine zr_eqi (((88 : Nat) : Int)) (by rfl) ?_
          refine lv_bipush (v := iZ 86) hx hb dX11_isRight_85 (by decide) ?_
          refine zr_eqi (((86 : Nat) : Int)) (by rfl) ?_
          refine lv_bipush (v := iZ 87) hx hb dX11_isRight_87 (by decide) ?_
          refine zr_eqi (((87 : Nat) : Int)) (by rfl) ?_
          refine lv_iconst (v := iZ 1) hx hb dX11_isRight_89 rfl ?_
          refine zc_Vv (As := [.int (iZ (((88 : Nat) : Int))), .int (iZ (((86 : Nat) : Int))), .int (iZ (((87 : Nat) : Int))), .int (iZ (1))]) (rest := []) (wr := [(pr, aI cI (6) (PR))]) ⟨hx, hb, hml, hown, hts⟩ (c_msum l D cI cJ cE cF cR mo fg le sg tp bl pr rs ((nn : Nat) : Int) dn sv rk tn ms (0) 88 86 87 (86 * j + 1) (83 + 2) F2 L2 S2 T2 B2 (pe_rs V (pe V nn nn) nn y1.toNat j) (pe_x (pe V nn nn) nn j * V (7 * y1.toNat + j)) (by decide) (by decide) (by decide) ((hk2 _ (by decide) (by decide)).f ((hk1 _ (by decide) (by decide)).f hr2)) hf2 hb3.1 hb3.2 hb4.1 hb4.2 1 (Or.inl rfl) (by omega)) (cwV 4 hts gX11_isRight_X11_sum rfl rfl rfl (by decide +kernel) ⟨Nat.le_of_ble_eq_true rfl, Nat.le_of_ble_eq_true rfl⟩) hN hK hP hD hS hA [0, 1, 2, 3, 4, 5] [6] rfl rfl (by decide) (by decide) (by decide) (q0 := 0) (ci := 11) rfl rfl rfl rfl hl.1 (Nat.le_of_ble_eq_true rfl) dX11_isRight_90 ⟨by decide, by decide⟩ (fun w1 H locs hp hP hD hS => ?_)
          obtain ⟨F3, L3, S3, T3, B3, hw9, hk3, hf3⟩ := hp
          subst hw9
          have hP := hP.sub (ws' := [(mo, mo_ fg le sg tp bl pr rs (((nn : Nat) : Int)) (dn) (sv) (rk) (tn) (ms) (0)), (fg, aI cI (52200) (F3)), (le, aI cI (190) (L3)), (sg, aI cI (90) (S3)), (tp, aI cI (1300) (T3)), (bl, aI cI (1300) (B3)), (pr, aI cI (6) (PR))]) [1, 2, 3, 4, 5, 6, 0] rfl
          have hD := hD.sub (ws' := [(mo, mo_ fg le sg tp bl pr rs (((nn : Nat) : Int)) (dn) (sv) (rk) (tn) (ms) (0)), (fg, aI cI (52200) (F3)), (le, aI cI (190) (L3)), (sg, aI cI (90) (S3)), (tp, aI cI (1300) (T3)), (bl, aI cI (1300) (B3)), (pr, aI cI (6) (PR))]) [1, 2, 3, 4, 5, 6, 0] (by decide) rfl
          refine lv_aload_n hx hb dX11_isRight_93 rfl (lv_at hl 1 rfl) ?_
          refine lv_bipush (v := iZ 86) hx hb dX11_isRight_94 (by decide) ?_
          refine zr_eqi (((86 : Nat) : Int)) (by rfl) ?_
          refine lv_bipush (v := iZ 88) hx hb dX11_isRight_96 (by decide) ?_
          refine zr_eqi (((88 : Nat) : Int)) (by rfl) ?_
          refine zc_Vv (As := [.int (iZ (((86 : Nat) : Int))), .int (iZ (((88 : Nat) : Int)))]) (rest := []) (wr := [(tp, aI cI (1300) (T3)), (bl, aI cI (1300) (B3)), (pr, aI cI (6) (PR))]) ⟨hx, hb, hml, hown, hts⟩ (c_massign l D cI cJ cE cF cR mo fg le sg tp bl pr rs ((nn : Nat) : Int) dn sv rk tn ms (0) (86) (88) (86 * (j + 1) + 1) F3 L3 S3 (pe_rs V (pe V nn nn) nn y1.toNat (j + 1)) (by decide) (by decide) (by decide) (by show md_f F3 L3 S3 88 (pe_rs V (pe V nn nn) nn y1.toNat j + pe_x (pe V nn nn) nn j * V (7 * y1.toNat + j)); rw [← pe_p1]; exact hf3) (pe_rs_b hT hn hVs (by omega) (j + 1) (by omega)).1 (pe_rs_b hT hn hVs (by omega) (j + 1) (by omega)).2 (by rw [show mdC (2 * 86) = 1200 from rfl]; omega) (by rw [show mdC (2 * 86 + 1) = 1200 from rfl]; omega)) (cwV 2 hts gX11_isRight_X11_assign rfl rfl rfl (by decide +kernel) ⟨Nat.le_of_ble_eq_true rfl, Nat.le_of_ble_eq_true rfl⟩) hN hK hP hD hS hA [0, 1, 2, 3] [4, 5, 6] rfl rfl (by decide) (by decide) (by decide) (q0 := 0) (ci := 11) rfl rfl rfl rfl hl.1 (Nat.le_of_ble_eq_true rfl) dX11_isRight_98 ⟨by decide, by decide⟩ (fun w1 H locs hp hP hD hS => ?_)
          obtain ⟨F4, L4, S4, hw9, hk4, hf4⟩ := hp
          subst hw9
          have hP := hP.sub (ws' := [(mo, mo_ fg le sg tp bl pr rs (((nn : Nat) : Int)) (dn) (sv) (rk) (tn) (ms) (0)), (fg, aI cI (52200) (F4)), (le, aI cI (190) (L4)), (sg, aI cI (90) (S4)), (tp, aI cI (1300) (T3)), (bl, aI cI (1300) (B3)), (pr, aI cI (6) (PR))]) [3, 4, 5, 6, 0, 1, 2] rfl
          have hD := hD.sub (ws' := [(mo, mo_ fg le sg tp bl pr rs (((nn : Nat) : Int)) (dn) (sv) (rk) (tn) (ms) (0)), (fg, aI cI (52200) (F4)), (le, aI cI (190) (L4)), (sg, aI cI (90) (S4)), (tp, aI cI (1300) (T3)), (bl, aI cI (1300) (B3)), (pr, aI cI (6) (PR))]) [3, 4, 5, 6, 0, 1, 2] (by decide) rfl
          refine lv_iinc (v := iZ (((j + 1 : Nat) : Int))) (lv' := [(2, .int (iZ (((j + 1 : Nat) : Int)))), (0, .ref (mo)), (1, .int (iZ (y1)))]) hx hb dX11_isRight_101 hl (k := 0) rfl (by rw [show ((j + 1 : Nat) : Int) = ((j : Nat) : Int) + 1 by omega]; exact iZ_add _ _) (by decide) rfl (fun ls hl => ?_)
          refine lv_goto (tgt := 56) hx hb dX11_isRight_104 (by decide) ?_
          exact ih (j + 1) F4 L4 S4 T3 B3 H locs ls (by omega) (fun g g1 g2 => ((((hke g g1 g2).trans (hk1 g g1 (by omega))).trans (hk2 g g1 (by omega))).trans (hk3 g g1 (by omega))).trans (hk4 g g1 (by omega))) hf4 hP hD hS (lv_sub hl [0, 1, 2] rfl)
    refine lv_aload_n hx hb dX11_isRight_0 rfl (lv_at hl 0 rfl) ?_
    refine lv_iload_n hx hb dX11_isRight_1 rfl (lv_at hl 1 rfl) ?_
    refine zr_if_lt hx hb 13 hy1 dX11_isRight_2 (by decide) (fun h_2 => ?_) (fun h_2 => ?_)
    · exfalso; omega
    · refine lv_iload_n hx hb dX11_isRight_5 rfl (lv_at hl 1 rfl) ?_
      refine lv_aload_n hx hb dX11_isRight_6 rfl (lv_at hl 0 rfl) ?_
      refine va_get (D := D) (ci := 11) (v := .int (iZ (((nn : Nat) : Int)))) (C := RX11) (T := TX11) (N := 14) hx hb hts hin11 hown hK hP 0 rfl rfl 5 (by decide) q_f_RX11_26_LimbSolverModel_n_I (fun _ h9 => h9) rfl dX11_isRight_7 ?_
      refine zr_icmp_lt hx hb 17 hy1 ⟨by omega, by omega⟩ dX11_isRight_10 (by decide) (fun h_10 => ?_) (fun h_10 => ?_)
      · refine lv_aload_n hx hb dX11_isRight_17 rfl (lv_at hl 0 rfl) ?_
        refine va_get (D := D) (ci := 11) (v := .int (iZ (dn))) (C := RX11) (T := TX11) (N := 14) hx hb hts hin11 hown hK hP 0 rfl rfl 6 (by decide) q_f_RX11_109_LimbSolverModel_done_Z (fun _ h9 => h9) rfl dX11_isRight_18 ?_
        refine zr_if_eq hx hb 31 ⟨by omega, by omega⟩ dX11_isRight_21 (by decide) (fun h_21 => ?_) (fun h_21 => ?_)
        · exfalso; omega
        · refine lv_aload_n hx hb dX11_isRight_24 rfl (lv_at hl 0 rfl) ?_
          refine va_get (D := D) (ci := 11) (v := .int (iZ (sv))) (C := RX11) (T := TX11) (N := 14) hx hb hts hin11 hown hK hP 0 rfl rfl 7 (by decide) q_f_RX11_151_LimbSolverModel_solvable_Z (fun _ h9 => h9) rfl dX11_isRight_25 ?_
          refine zr_if_ne hx hb 35 ⟨by omega, by omega⟩ dX11_isRight_28 (by decide) (fun h_28 => ?_) (fun h_28 => ?_)
          · refine lv_iconst (v := iZ 0) hx hb dX11_isRight_35 rfl ?_
            refine va_put (D := D) (ci := 11) (v := .int (iZ (0))) (ty := tyX11 12) (C := RX11) (T := TX11) (N := 14) hx hb hts hin11 tyX11 tyX11_ok nmX11 hown hK hP hD hS 0 rfl rfl 12 (by decide) q_f_RX11_40_LimbSolverModel_thrown_I (fun _ h9 => h9) rfl (tyX11_ok 12 (by decide)) rfl rfl (Nat.le_of_ble_eq_true rfl) dX11_isRight_36 (fun H locs hP hD hS => ?_)
            have hP : va_P D vwCl [(mo, mo_ fg le sg tp bl pr rs (((nn : Nat) : Int)) (dn) (sv) (rk) (tn) (ms) (0)), (fg, aI cI (52200) (F)), (le, aI cI (190) (Ln)), (sg, aI cI (90) (Sg)), (tp, aI cI (1300) (T0)), (bl, aI cI (1300) (B0)), (pr, aI cI (6) (PR))] H := hP
            have hD : va_D A [(mo, mo_ fg le sg tp bl pr rs (((nn : Nat) : Int)) (dn) (sv) (rk) (tn) (ms) (0)), (fg, aI cI (52200) (F)), (le, aI cI (190) (Ln)), (sg, aI cI (90) (Sg)), (tp, aI cI (1300) (T0)), (bl, aI cI (1300) (B0)), (pr, aI cI (6) (PR))] := hD
            refine lv_aload_n hx hb dX11_isRight_39 rfl (lv_at hl 0 rfl) ?_
            refine va_get (D := D) (ci := 11) (v := .int (iZ (0))) (C := RX11) (T := TX11) (N := 14) hx hb hts hin11 hown hK hP 0 rfl rfl 12 (by decide) q_f_RX11_40_LimbSolverModel_thrown_I (fun _ h9 => h9) rfl dX11_isRight_40 ?_
            refine zr_if_le hx hb 48 ⟨by omega, by omega⟩ dX11_isRight_43 (by decide) (fun h_43 => ?_) (fun h_43 => ?_)
            · refine lv_aload_n hx hb dX11_isRight_48 rfl (lv_at hl 0 rfl) ?_
              refine lv_bipush (v := iZ 86) hx hb dX11_isRight_49 (by decide) ?_
              refine zr_eqi (((86 : Nat) : Int)) (by rfl) ?_
              refine zc_Vv (As := [.int (iZ (((86 : Nat) : Int)))]) (rest := []) (wr := [(tp, aI cI (1300) (T0)), (bl, aI cI (1300) (B0)), (pr, aI cI (6) (PR))]) ⟨hx, hb, hml, hown, hts⟩ (c_mzero l D cI cJ cE cF cR mo fg le sg tp bl pr rs ((nn : Nat) : Int) dn sv rk tn ms (0) 86 F Ln Sg (by decide)) (cwV 1 hts gX11_isRight_X11_zero rfl rfl rfl (by decide +kernel) ⟨Nat.le_of_ble_eq_true rfl, Nat.le_of_ble_eq_true rfl⟩) hN hK hP hD hS hA [0, 1, 2, 3] [4, 5, 6] rfl rfl (by decide) (by decide) (by decide) (q0 := 0) (ci := 11) rfl rfl rfl rfl hl.1 (Nat.le_of_ble_eq_true rfl) dX11_isRight_51 ⟨by decide, by decide⟩ (fun w1 H locs hp hP hD hS => ?_)
              obtain ⟨F2, L2, S2, hw9, hk2, hf2⟩ := hp
              subst hw9
              have hP := hP.sub (ws' := [(mo, mo_ fg le sg tp bl pr rs (((nn : Nat) : Int)) (dn) (sv) (rk) (tn) (ms) (0)), (fg, aI cI (52200) (F2)), (le, aI cI (190) (L2)), (sg, aI cI (90) (S2)), (tp, aI cI (1300) (T0)), (bl, aI cI (1300) (B0)), (pr, aI cI (6) (PR))]) [3, 4, 5, 6, 0, 1, 2] rfl
              have hD := hD.sub (ws' := [(mo, mo_ fg le sg tp bl pr rs (((nn : Nat) : Int)) (dn) (sv) (rk) (tn) (ms) (0)), (fg, aI cI (52200) (F2)), (le, aI cI (190) (L2)), (sg, aI cI (90) (S2)), (tp, aI cI (1300) (T0)), (bl, aI cI (1300) (B0)), (pr, aI cI (6) (PR))]) [3, 4, 5, 6, 0, 1, 2] (by decide) rfl
              refine lv_iconst (v := iZ 0) hx hb dX11_isRight_54 rfl ?_
              refine lv_istore_n (lv' := [(2, .int (iZ (0))), (0, .ref (mo)), (1, .int (iZ (y1)))]) hx hb dX11_isRight_55 rfl hl (by decide) rfl (fun ls hl => ?_)
              exact lp nn 0 F2 L2 S2 T0 B0 H locs ls (by omega) (fun g g1 g2 => hk2 g g1 (by omega)) hf2 hP hD hS (lv_sub hl [0, 1, 2] rfl)
            · exfalso; omega
          · exfalso; omega
      · exfalso; omega
  · refine lv_aload_n hx hb dX11_isRight_0 rfl (lv_at hl 0 rfl) ?_
    refine lv_iload_n hx hb dX11_isRight_1 rfl (lv_at hl 1 rfl) ?_
    refine zr_if_lt hx hb 13 hy1 dX11_isRight_2 (by decide) (fun h_2 => ?_) (fun h_2 => ?_)
    · refine lv_iconst (v := iZ 1) hx hb dX11_isRight_13 rfl ?_
      refine lv_goto (tgt := 36) hx hb dX11_isRight_14 (by decide) ?_
      refine va_put (D := D) (ci := 11) (v := .int (iZ (1))) (ty := tyX11 12) (C := RX11) (T := TX11) (N := 14) hx hb hts hin11 tyX11 tyX11_ok nmX11 hown hK hP hD hS 0 rfl rfl 12 (by decide) q_f_RX11_40_LimbSolverModel_thrown_I (fun _ h9 => h9) rfl (tyX11_ok 12 (by decide)) rfl rfl (Nat.le_of_ble_eq_true rfl) dX11_isRight_36 (fun H locs hP hD hS => ?_)
      have hP : va_P D vwCl [(mo, mo_ fg le sg tp bl pr rs (((nn : Nat) : Int)) (dn) (sv) (rk) (tn) (ms) (1)), (fg, aI cI (52200) (F)), (le, aI cI (190) (Ln)), (sg, aI cI (90) (Sg)), (tp, aI cI (1300) (T0)), (bl, aI cI (1300) (B0)), (pr, aI cI (6) (PR))] H := hP
      have hD : va_D A [(mo, mo_ fg le sg tp bl pr rs (((nn : Nat) : Int)) (dn) (sv) (rk) (tn) (ms) (1)), (fg, aI cI (52200) (F)), (le, aI cI (190) (Ln)), (sg, aI cI (90) (Sg)), (tp, aI cI (1300) (T0)), (bl, aI cI (1300) (B0)), (pr, aI cI (6) (PR))] := hD
      refine lv_aload_n hx hb dX11_isRight_39 rfl (lv_at hl 0 rfl) ?_
      refine va_get (D := D) (ci := 11) (v := .int (iZ (1))) (C := RX11) (T := TX11) (N := 14) hx hb hts hin11 hown hK hP 0 rfl rfl 12 (by decide) q_f_RX11_40_LimbSolverModel_thrown_I (fun _ h9 => h9) rfl dX11_isRight_40 ?_
      refine zr_if_le hx hb 48 ⟨by omega, by omega⟩ dX11_isRight_43 (by decide) (fun h_43 => ?_) (fun h_43 => ?_)
      · exfalso; omega
      · refine lv_iconst (v := iZ 0) hx hb dX11_isRight_46 rfl ?_
        exact zr_zret hQ hx hb hr hlk dX11_isRight_47 hK hP hD hS (by omega) (by omega) ((by decide)) (⟨F, Ln, Sg, T0, B0, 1, rfl, (fun g _ _ => md_ef.refl F Ln Sg g), Or.inl ⟨by omega, rfl⟩⟩)
    · refine lv_iload_n hx hb dX11_isRight_5 rfl (lv_at hl 1 rfl) ?_
      refine lv_aload_n hx hb dX11_isRight_6 rfl (lv_at hl 0 rfl) ?_
      refine va_get (D := D) (ci := 11) (v := .int (iZ (((nn : Nat) : Int)))) (C := RX11) (T := TX11) (N := 14) hx hb hts hin11 hown hK hP 0 rfl rfl 5 (by decide) q_f_RX11_26_LimbSolverModel_n_I (fun _ h9 => h9) rfl dX11_isRight_7 ?_
      refine zr_icmp_lt hx hb 17 hy1 ⟨by omega, by omega⟩ dX11_isRight_10 (by decide) (fun h_10 => ?_) (fun h_10 => ?_)
      · refine lv_aload_n hx hb dX11_isRight_17 rfl (lv_at hl 0 rfl) ?_
        refine va_get (D := D) (ci := 11) (v := .int (iZ (dn))) (C := RX11) (T := TX11) (N := 14) hx hb hts hin11 hown hK hP 0 rfl rfl 6 (by decide) q_f_RX11_109_LimbSolverModel_done_Z (fun _ h9 => h9) rfl dX11_isRight_18 ?_
        refine zr_if_eq hx hb 31 ⟨by omega, by omega⟩ dX11_isRight_21 (by decide) (fun h_21 => ?_) (fun h_21 => ?_)
        · refine lv_iconst (v := iZ 2) hx hb dX11_isRight_31 rfl ?_
          refine lv_goto (tgt := 36) hx hb dX11_isRight_32 (by decide) ?_
          refine va_put (D := D) (ci := 11) (v := .int (iZ (2))) (ty := tyX11 12) (C := RX11) (T := TX11) (N := 14) hx hb hts hin11 tyX11 tyX11_ok nmX11 hown hK hP hD hS 0 rfl rfl 12 (by decide) q_f_RX11_40_LimbSolverModel_thrown_I (fun _ h9 => h9) rfl (tyX11_ok 12 (by decide)) rfl rfl (Nat.le_of_ble_eq_true rfl) dX11_isRight_36 (fun H locs hP hD hS => ?_)
          have hP : va_P D vwCl [(mo, mo_ fg le sg tp bl pr rs (((nn : Nat) : Int)) (dn) (sv) (rk) (tn) (ms) (2)), (fg, aI cI (52200) (F)), (le, aI cI (190) (Ln)), (sg, aI cI (90) (Sg)), (tp, aI cI (1300) (T0)), (bl, aI cI (1300) (B0)), (pr, aI cI (6) (PR))] H := hP
          have hD : va_D A [(mo, mo_ fg le sg tp bl pr rs (((nn : Nat) : Int)) (dn) (sv) (rk) (tn) (ms) (2)), (fg, aI cI (52200) (F)), (le, aI cI (190) (Ln)), (sg, aI cI (90) (Sg)), (tp, aI cI (1300) (T0)), (bl, aI cI (1300) (B0)), (pr, aI cI (6) (PR))] := hD
          refine lv_aload_n hx hb dX11_isRight_39 rfl (lv_at hl 0 rfl) ?_
          refine va_get (D := D) (ci := 11) (v := .int (iZ (2))) (C := RX11) (T := TX11) (N := 14) hx hb hts hin11 hown hK hP 0 rfl rfl 12 (by decide) q_f_RX11_40_LimbSolverModel_thrown_I (fun _ h9 => h9) rfl dX11_isRight_40 ?_
          refine zr_if_le hx hb 48 ⟨by omega, by omega⟩ dX11_isRight_43 (by decide) (fun h_43 => ?_) (fun h_43 => ?_)
          · exfalso; omega
          · refine lv_iconst (v := iZ 0) hx hb dX11_isRight_46 rfl ?_
            exact zr_zret hQ hx hb hr hlk dX11_isRight_47 hK hP hD hS (by omega) (by omega) ((by decide)) (⟨F, Ln, Sg, T0, B0, 2, rfl, (fun g _ _ => md_ef.refl F Ln Sg g), Or.inr (Or.inl ⟨by omega, by omega, rfl⟩)⟩)
        · refine lv_aload_n hx hb dX11_isRight_24 rfl (lv_at hl 0 rfl) ?_
          refine va_get (D := D) (ci := 11) (v := .int (iZ (sv))) (C := RX11) (T := TX11) (N := 14) hx hb hts hin11 hown hK hP 0 rfl rfl 7 (by decide) q_f_RX11_151_LimbSolverModel_solvable_Z (fun _ h9 => h9) rfl dX11_isRight_25 ?_
          refine zr_if_ne hx hb 35 ⟨by omega, by omega⟩ dX11_isRight_28 (by decide) (fun h_28 => ?_) (fun h_28 => ?_)
          · exfalso; omega
          · refine lv_iconst (v := iZ 2) hx hb dX11_isRight_31 rfl ?_
            refine lv_goto (tgt := 36) hx hb dX11_isRight_32 (by decide) ?_
            refine va_put (D := D) (ci := 11) (v := .int (iZ (2))) (ty := tyX11 12) (C := RX11) (T := TX11) (N := 14) hx hb hts hin11 tyX11 tyX11_ok nmX11 hown hK hP hD hS 0 rfl rfl 12 (by decide) q_f_RX11_40_LimbSolverModel_thrown_I (fun _ h9 => h9) rfl (tyX11_ok 12 (by decide)) rfl rfl (Nat.le_of_ble_eq_true rfl) dX11_isRight_36 (fun H locs hP hD hS => ?_)
            have hP : va_P D vwCl [(mo, mo_ fg le sg tp bl pr rs (((nn : Nat) : Int)) (dn) (sv) (rk) (tn) (ms) (2)), (fg, aI cI (52200) (F)), (le, aI cI (190) (Ln)), (sg, aI cI (90) (Sg)), (tp, aI cI (1300) (T0)), (bl, aI cI (1300) (B0)), (pr, aI cI (6) (PR))] H := hP
            have hD : va_D A [(mo, mo_ fg le sg tp bl pr rs (((nn : Nat) : Int)) (dn) (sv) (rk) (tn) (ms) (2)), (fg, aI cI (52200) (F)), (le, aI cI (190) (Ln)), (sg, aI cI (90) (Sg)), (tp, aI cI (1300) (T0)), (bl, aI cI (1300) (B0)), (pr, aI cI (6) (PR))] := hD
            refine lv_aload_n hx hb dX11_isRight_39 rfl (lv_at hl 0 rfl) ?_
            refine va_get (D := D) (ci := 11) (v := .int (iZ (2))) (C := RX11) (T := TX11) (N := 14) hx hb hts hin11 hown hK hP 0 rfl rfl 12 (by decide) q_f_RX11_40_LimbSolverModel_thrown_I (fun _ h9 => h9) rfl dX11_isRight_40 ?_
            refine zr_if_le hx hb 48 ⟨by omega, by omega⟩ dX11_isRight_43 (by decide) (fun h_43 => ?_) (fun h_43 => ?_)
            · exfalso; omega
            · refine lv_iconst (v := iZ 0) hx hb dX11_isRight_46 rfl ?_
              exact zr_zret hQ hx hb hr hlk dX11_isRight_47 hK hP hD hS (by omega) (by omega) ((by decide)) (⟨F, Ln, Sg, T0, B0, 2, rfl, (fun g _ _ => md_ef.refl F Ln Sg g), Or.inr (Or.inl ⟨by omega, by omega, rfl⟩)⟩)
      · refine lv_iconst (v := iZ 1) hx hb dX11_isRight_13 rfl ?_
        refine lv_goto (tgt := 36) hx hb dX11_isRight_14 (by decide) ?_
        refine va_put (D := D) (ci := 11) (v := .int (iZ (1))) (ty := tyX11 12) (C := RX11) (T := TX11) (N := 14) hx hb hts hin11 tyX11 tyX11_ok nmX11 hown hK hP hD hS 0 rfl rfl 12 (by decide) q_f_RX11_40_LimbSolverModel_thrown_I (fun _ h9 => h9) rfl (tyX11_ok 12 (by decide)) rfl rfl (Nat.le_of_ble_eq_true rfl) dX11_isRight_36 (fun H locs hP hD hS => ?_)
        have hP : va_P D vwCl [(mo, mo_ fg le sg tp bl pr rs (((nn : Nat) : Int)) (dn) (sv) (rk) (tn) (ms) (1)), (fg, aI cI (52200) (F)), (le, aI cI (190) (Ln)), (sg, aI cI (90) (Sg)), (tp, aI cI (1300) (T0)), (bl, aI cI (1300) (B0)), (pr, aI cI (6) (PR))] H := hP
        have hD : va_D A [(mo, mo_ fg le sg tp bl pr rs (((nn : Nat) : Int)) (dn) (sv) (rk) (tn) (ms) (1)), (fg, aI cI (52200) (F)), (le, aI cI (190) (Ln)), (sg, aI cI (90) (Sg)), (tp, aI cI (1300) (T0)), (bl, aI cI (1300) (B0)), (pr, aI cI (6) (PR))] := hD
        refine lv_aload_n hx hb dX11_isRight_39 rfl (lv_at hl 0 rfl) ?_
        refine va_get (D := D) (ci := 11) (v := .int (iZ (1))) (C := RX11) (T := TX11) (N := 14) hx hb hts hin11 hown hK hP 0 rfl rfl 12 (by decide) q_f_RX11_40_LimbSolverModel_thrown_I (fun _ h9 => h9) rfl dX11_isRight_40 ?_
        refine zr_if_le hx hb 48 ⟨by omega, by omega⟩ dX11_isRight_43 (by decide) (fun h_43 => ?_) (fun h_43 => ?_)
        · exfalso; omega
        · refine lv_iconst (v := iZ 0) hx hb dX11_isRight_46 rfl ?_
          exact zr_zret hQ hx hb hr hlk dX11_isRight_47 hK hP hD hS (by omega) (by omega) ((by decide)) (⟨F, Ln, Sg, T0, B0, 1, rfl, (fun g _ _ => md_ef.refl F Ln Sg g), Or.inl ⟨by omega, rfl⟩⟩)
