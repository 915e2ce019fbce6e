
/-- the fractions from a place on -/
def md_A (F Ln Sg : Nat → Int) (fr : Nat) (V : Nat → Rat) : Prop := ∀ j : Nat, j < 42 → md_f F Ln Sg (fr + j) (V j)
theorem md_A.len {F Ln Sg : Nat → Int} {fr : Nat} {V : Nat → Rat} (h : md_A F Ln Sg fr V) (hfr : fr ≤ 42) {j : Nat} (hj : j < 42) : Ln (2 * (fr + j)) = ((lcn (V j).num.natAbs : Nat) : Int) ∧ Ln (2 * (fr + j) + 1) = ((lcn (V j).den : Nat) : Int) ∧ rl (V j) ≤ 2400 := by
  have h1 := md_len (h j hj).2.1
  have h2 := md_len (h j hj).2.2
  have c1 := mdC_b (2 * (fr + j))
  have c2 := mdC_b (2 * (fr + j) + 1)
  exact ⟨h1.1, h2.1, by unfold rl; omega⟩

theorem md_set {nm d : Int} (hd : d ≠ 0) (x : Rat) (hx : x = mkRat (if d < 0 then -nm else nm) d.natAbs) : x.num.natAbs = nm.natAbs / Nat.gcd nm.natAbs d.natAbs ∧ x.den = d.natAbs / Nat.gcd nm.natAbs d.natAbs ∧ ((nm = 0 ∧ x.num.sign = 0) ∨ ((nm < 0 ↔ d < 0) ∧ nm ≠ 0 ∧ x.num.sign = 1) ∨ (¬ (nm < 0 ↔ d < 0) ∧ nm ≠ 0 ∧ x.num.sign = -1)) := by
  have hd0 : 0 < d.natAbs := Int.natAbs_pos.mpr hd
  by_cases h0 : nm = 0
  · subst h0
    have : x = 0 := by rw [hx]; simp
    subst this
    refine ⟨by simp, ?_, Or.inl ⟨rfl, rfl⟩⟩
    show 1 = _
    rw [Int.natAbs_zero, Nat.gcd_zero_left, Nat.div_self hd0]
  · have hn0 : 0 < nm.natAbs := Int.natAbs_pos.mpr h0
    by_cases hs : (nm < 0 ↔ d < 0)
    · have e : (if d < 0 then -nm else nm) = 1 * ((nm.natAbs : Nat) : Int) := by split <;> omega
      rw [e] at hx
      have := md_low (s := 1) (Or.inl rfl) hd0 hn0
      rw [← hx] at this
      exact ⟨this.1, this.2.1, Or.inr (Or.inl ⟨hs, h0, this.2.2⟩)⟩
    · have e : (if d < 0 then -nm else nm) = -1 * ((nm.natAbs : Nat) : Int) := by split <;> omega
      rw [e] at hx
      have := md_low (s := -1) (Or.inr rfl) hd0 hn0
      rw [← hx] at this
      exact ⟨this.1, this.2.1, Or.inr (Or.inr ⟨hs, h0, this.2.2⟩)⟩
theorem md_A.upd {F Ln Sg F' Ln' Sg' : Nat → Int} {V : Nat → Rat} {f : Nat} {x : Rat} (h : md_A F Ln Sg 0 V) (hk : ∀ g : Nat, g < 90 → g ≠ f → md_ef F Ln Sg F' Ln' Sg' g) (hf : md_f F' Ln' Sg' f x) : md_A F' Ln' Sg' 0 (zu V f x) := by
  intro j hj
  rw [Nat.zero_add]
  by_cases q : j = f
  · subst q; rw [zu_s]; exact hf
  · rw [zu_n V x q]
    have := h j hj
    rw [Nat.zero_add] at this
    exact (hk j (by omega) q).f this

theorem mtr_le {F Ln Sg : Nat → Int} {fr : Nat} {V : Nat → Rat} (h : md_A F Ln Sg fr V) (hfr : fr ≤ 42) {i : Nat} (hi : i < 6) : ∀ c : Nat, c ≤ 7 → mtr V i c ≤ 2400 * c := by
  intro c
  induction c with
  | zero => intro _; exact Nat.le_refl 0
  | succ c ih =>
    intro hc
    have := ih (by omega)
    have h2 := (h.len hfr (j := 7 * i + c) (by omega)).2.2
    show mtr V i c + rl (V (7 * i + c)) ≤ _
    omega
theorem mta_le {F Ln Sg : Nat → Int} {fr : Nat} {V : Nat → Rat} (h : md_A F Ln Sg fr V) (hfr : fr ≤ 42) {n : Nat} (hn : n ≤ 6) : mta V n n ≤ 100800 := by
  have : ∀ i : Nat, i ≤ n → mta V n i ≤ 16800 * i := by
    intro i
    induction i with
    | zero => intro _; exact Nat.le_refl 0
    | succ i ih =>
      intro hi
      have h1 := ih (by omega)
      have h2 := mtr_le h hfr (i := i) (by omega) (n + 1) (by omega)
      show mta V n i + mtr V i (n + 1) ≤ _
      omega
  have := this n (Nat.le_refl n)
  omega
set_option maxHeartbeats 4000000 in
set_option maxRecDepth 100000 in
/-- Model.meterOf -/
theorem c_meterOf (l : Launch) (D : va_G) (cI cJ cE cF cR : ClassId) (mo fg le sg tp bl pr rs nn : Nat) (dn sv rk tn ms th : Int) (fr : Nat) (F Ln Sg : Nat → Int) (V : Nat → Rat) (hn : nn ≤ 6) (hfr : fr ≤ 42) (hAA : md_A F Ln Sg fr V) : Ci l D (zty cI cJ cE cF cR) yX11_meterOf wsX11_meterOf (zRm 1 25) 0 0 [.ref (mo), .int (iZ (((fr : Nat) : Int)))] [(mo, mo_ fg le sg tp bl pr rs (((nn : Nat) : Int)) (dn) (sv) (rk) (tn) (ms) (th)), (le, aI cI (190) (Ln))] (fun r w1 => w1 = [(mo, mo_ fg le sg tp bl pr rs (((nn : Nat) : Int)) (dn) (sv) (rk) (tn) (ms) (th)), (le, aI cI (190) (Ln))] ∧ r = ((mta V nn nn : Nat) : Int)) := by
  unfold Ci
  refine zs (Qc := zQi D _ _) (cc := cX11_meterOf) (maxL := 6) (ret := (some .int)) (by decide) rfl (Nat.le_of_ble_eq_true rfl) ?_
  intro zp ze s zm below meth zc ls A args Q hQ hx hb hr hts hown hlk hml hnm hN hA hK hP hD hS hl
  have q_f_RX11_26_LimbSolverModel_n_I := hts (.fieldLink RX11 26 "LimbSolverModel" "n" "I") (by decide +kernel)
  have hin11 : ∀ w ∈ wsX110, w ∈ wsX11_meterOf := by decide +kernel
  have q_f_RX11_14_LimbSolverModel_length_I := hts (.fieldLink RX11 14 "LimbSolverModel" "length" "[I") (by decide +kernel)
  have hl : lv_has ls 6 [(0, .ref (mo)), (1, .int (iZ (((fr : Nat) : Int))))] := hl
  have lp : ∀ (t : Nat) (i : Nat) (sm : Nat) (H : Heap) (locs : List Loc) (ls : Array Slot), (i + t = nn) → (sm = mta V nn i) → (sm ≤ 16800 * i) →  va_P D vwCl [(mo, mo_ fg le sg tp bl pr rs (((nn : Nat) : Int)) (dn) (sv) (rk) (tn) (ms) (th)), (le, aI cI (190) (Ln))] H → va_D A [(mo, mo_ fg le sg tp bl pr rs (((nn : Nat) : Int)) (dn) (sv) (rk) (tn) (ms) (th)), (le, aI cI (190) (Ln))] → va_S A s.heap H locs → lv_has ls 6 [(2, .int (iZ (((sm : Nat) : Int)))), (3, .int (iZ (((i : Nat) : Int)))), (0, .ref (mo)), (1, .int (iZ (((fr : Nat) : Int))))] → W zp l ze (zRm 1 25) s zm args below meth zc H locs 0 0 Q (F0 zm 4 ls []) := by
    intro t
    induction t with
    | zero =>
      intro i sm H locs ls hit hsa hsb hP hD hS hl
      refine lv_iload_n hx hb dX11_meterOf_4 rfl (lv_at hl 1 rfl) ?_
      refine lv_aload_n hx hb dX11_meterOf_5 rfl (lv_at hl 2 rfl) ?_
      refine va_get (D := D) (ci := 11) (v := .int (iZ (((nn : Nat) : Int)))) (C := RX11) (T := TX11) (N := 14) hx hb hts hin11 hown hK hP 0 rfl rfl 5 (by decide) q_f_RX11_26_LimbSolverModel_n_I (fun _ h9 => h9) rfl dX11_meterOf_6 ?_
      refine zr_icmp_ge hx hb 70 ⟨by omega, by omega⟩ ⟨by omega, by omega⟩ dX11_meterOf_9 (by decide) (fun h_9 => ?_) (fun h_9 => ?_)
      · refine lv_iload_n hx hb dX11_meterOf_70 rfl (lv_at hl 0 rfl) ?_
        exact zr_iret hQ hx hb hr hlk dX11_meterOf_71 hK hP hD hS (by omega) (by omega) ⟨by omega, by omega⟩ (⟨rfl, by rw [hsa, show i = nn by omega]⟩)
      · exfalso; omega
    | succ t ih =>
      intro i sm H locs ls hit hsa hsb hP hD hS hl
      have ihO := ih
      have inner : ∀ (t : Nat) (j : Nat) (sm : Nat) (H : Heap) (locs : List Loc) (ls : Array Slot), (j + t = nn + 1) → (sm = mta V nn i + mtr V i j) → (sm ≤ 16800 * i + 2400 * j) →  va_P D vwCl [(mo, mo_ fg le sg tp bl pr rs (((nn : Nat) : Int)) (dn) (sv) (rk) (tn) (ms) (th)), (le, aI cI (190) (Ln))] H → va_D A [(mo, mo_ fg le sg tp bl pr rs (((nn : Nat) : Int)) (dn) (sv) (rk) (tn) (ms) (th)), (le, aI cI (190) (Ln))] → va_S A s.heap H locs → lv_has ls 6 [(4, .int (iZ (((j : Nat) : Int)))), (2, .int (iZ (((sm : Nat) : Int)))), (3, .int (iZ (((i : Nat) : Int)))), (0, .ref (mo)), (1, .int (iZ (((fr : Nat) : Int))))] → W zp l ze (zRm 1 25) s zm args below meth zc H locs 0 0 Q (F0 zm 15 ls []) := by
        intro t
        induction t with
        | zero =>
          intro j sm H locs ls hjt hsr hsb hP hD hS hl
          refine lv_iload hx hb dX11_meterOf_15 (lv_at hl 0 rfl) ?_
          refine lv_aload_n hx hb dX11_meterOf_17 rfl (lv_at hl 3 rfl) ?_
          refine va_get (D := D) (ci := 11) (v := .int (iZ (((nn : Nat) : Int)))) (C := RX11) (T := TX11) (N := 14) hx hb hts hin11 hown hK hP 0 rfl rfl 5 (by decide) q_f_RX11_26_LimbSolverModel_n_I (fun _ h9 => h9) rfl dX11_meterOf_18 ?_
          refine zr_icmp_gt hx hb 64 ⟨by omega, by omega⟩ ⟨by omega, by omega⟩ dX11_meterOf_21 (by decide) (fun h_21 => ?_) (fun h_21 => ?_)
          · refine lv_iinc (v := iZ (((i + 1 : Nat) : Int))) (lv' := [(3, .int (iZ (((i + 1 : Nat) : Int)))), (4, .int (iZ (((j : Nat) : Int)))), (2, .int (iZ (((sm : Nat) : Int)))), (0, .ref (mo)), (1, .int (iZ (((fr : Nat) : Int))))]) hx hb dX11_meterOf_64 hl (k := 2) rfl (by rw [show ((i + 1 : Nat) : Int) = ((i : Nat) : Int) + 1 by omega]; exact iZ_add _ _) (by decide) rfl (fun ls hl => ?_)
            refine lv_goto (tgt := 4) hx hb dX11_meterOf_67 (by decide) ?_
            exact ihO (i + 1) sm H locs ls (by omega) (by rw [hsr, show j = nn + 1 by omega]; rfl) (by omega) hP hD hS (lv_sub hl [2, 0, 3, 4] rfl)
          · exfalso; omega
        | succ t ih =>
          intro j sm H locs ls hjt hsr hsb hP hD hS hl
          refine lv_iload hx hb dX11_meterOf_15 (lv_at hl 0 rfl) ?_
          refine lv_aload_n hx hb dX11_meterOf_17 rfl (lv_at hl 3 rfl) ?_
          refine va_get (D := D) (ci := 11) (v := .int (iZ (((nn : Nat) : Int)))) (C := RX11) (T := TX11) (N := 14) hx hb hts hin11 hown hK hP 0 rfl rfl 5 (by decide) q_f_RX11_26_LimbSolverModel_n_I (fun _ h9 => h9) rfl dX11_meterOf_18 ?_
          refine zr_icmp_gt hx hb 64 ⟨by omega, by omega⟩ ⟨by omega, by omega⟩ dX11_meterOf_21 (by decide) (fun h_21 => ?_) (fun h_21 => ?_)
          · exfalso; omega
          · have hl9 := hAA.len hfr (j := 7 * i + j) (by omega)
            refine lv_iload_n hx hb dX11_meterOf_24 rfl (lv_at hl 4 rfl) ?_
            refine lv_iload_n hx hb dX11_meterOf_25 rfl (lv_at hl 2 rfl) ?_
            refine lv_iload hx hb dX11_meterOf_26 (lv_at hl 0 rfl) ?_
            refine zc_Si (As := [.int (iZ (((i : Nat) : Int))), .int (iZ (((j : Nat) : Int)))]) (rest := [.int (iZ (((fr : Nat) : Int)))]) (wr := [(mo, mo_ fg le sg tp bl pr rs (((nn : Nat) : Int)) (dn) (sv) (rk) (tn) (ms) (th)), (le, aI cI (190) (Ln))]) ⟨hx, hb, hml, hown, hts⟩ (c_place l D cI cJ cE cF cR (i) (j) (by omega) (by omega)) (va_cwS 2 hts gX11_meterOf_X11_place rfl rfl rfl (by decide +kernel) ⟨Nat.le_of_ble_eq_true rfl, Nat.le_of_ble_eq_true rfl⟩) hN hK hP hD hS hA [] [0, 1] rfl rfl (by decide) (by decide) (by decide) rfl hl.1 (Nat.le_of_ble_eq_true rfl) dX11_meterOf_28 ⟨by decide, by decide⟩ (fun z28 w1 H locs hz28 hp hP hD hS => ?_)
            obtain ⟨hw9, hx0⟩ := hp
            subst hw9
            subst hx0
            have hP := hP.sub (ws' := [(mo, mo_ fg le sg tp bl pr rs (((nn : Nat) : Int)) (dn) (sv) (rk) (tn) (ms) (th)), (le, aI cI (190) (Ln))]) [0, 1] rfl
            have hD := hD.sub (ws' := [(mo, mo_ fg le sg tp bl pr rs (((nn : Nat) : Int)) (dn) (sv) (rk) (tn) (ms) (th)), (le, aI cI (190) (Ln))]) [0, 1] (by decide) rfl
            refine zr_iadd hx hb dX11_meterOf_31 ?_
            refine zr_eqi (((fr + (7 * i + j) : Nat) : Int)) (by omega) ?_
            refine lv_istore (lv' := [(5, .int (iZ (((fr + (7 * i + j) : Nat) : Int)))), (4, .int (iZ (((j : Nat) : Int)))), (2, .int (iZ (((sm : Nat) : Int)))), (3, .int (iZ (((i : Nat) : Int)))), (0, .ref (mo)), (1, .int (iZ (((fr : Nat) : Int))))]) hx hb dX11_meterOf_32 hl (by decide) rfl (fun ls hl => ?_)
            refine lv_iload_n hx hb dX11_meterOf_34 rfl (lv_at hl 2 rfl) ?_
            refine lv_aload_n hx hb dX11_meterOf_35 rfl (lv_at hl 4 rfl) ?_
            refine va_get (D := D) (ci := 11) (v := .ref (le)) (C := RX11) (T := TX11) (N := 14) hx hb hts hin11 hown hK hP 0 rfl rfl 1 (by decide) q_f_RX11_14_LimbSolverModel_length_I (fun _ h9 => h9) rfl dX11_meterOf_36 ?_
            refine lv_iconst (v := iZ 2) hx hb dX11_meterOf_39 rfl ?_
            refine lv_iload hx hb dX11_meterOf_40 (lv_at hl 0 rfl) ?_
            refine zr_imul hx hb dX11_meterOf_42 ?_
            refine zr_iald hx hb hK hP 1 0 rfl rfl (2 * (fr + (7 * i + j))) (by omega) (by omega) (by omega) dX11_meterOf_43 ?_
            refine zr_eqi ((lcn (V (7 * i + j)).num.natAbs : Nat) : Int) hl9.1 ?_
            refine lv_aload_n hx hb dX11_meterOf_44 rfl (lv_at hl 4 rfl) ?_
            refine va_get (D := D) (ci := 11) (v := .ref (le)) (C := RX11) (T := TX11) (N := 14) hx hb hts hin11 hown hK hP 0 rfl rfl 1 (by decide) q_f_RX11_14_LimbSolverModel_length_I (fun _ h9 => h9) rfl dX11_meterOf_45 ?_
            refine lv_iconst (v := iZ 2) hx hb dX11_meterOf_48 rfl ?_
            refine lv_iload hx hb dX11_meterOf_49 (lv_at hl 0 rfl) ?_
            refine zr_imul hx hb dX11_meterOf_51 ?_
            refine lv_iconst (v := iZ 1) hx hb dX11_meterOf_52 rfl ?_
            refine zr_iadd hx hb dX11_meterOf_53 ?_
            refine zr_iald hx hb hK hP 1 0 rfl rfl (2 * (fr + (7 * i + j)) + 1) (by omega) (by omega) (by omega) dX11_meterOf_54 ?_
            refine zr_eqi ((lcn (V (7 * i + j)).den : Nat) : Int) hl9.2.1 ?_
            refine zr_iadd hx hb dX11_meterOf_55 ?_
            refine zr_iadd hx hb dX11_meterOf_56 ?_
            refine zr_eqi (((sm + rl (V (7 * i + j)) : Nat) : Int)) (by unfold rl; omega) ?_
            refine lv_istore_n (lv' := [(2, .int (iZ (((sm + rl (V (7 * i + j)) : Nat) : Int)))), (5, .int (iZ (((fr + (7 * i + j) : Nat) : Int)))), (4, .int (iZ (((j : Nat) : Int)))), (3, .int (iZ (((i : Nat) : Int)))), (0, .ref (mo)), (1, .int (iZ (((fr : Nat) : Int))))]) hx hb dX11_meterOf_57 rfl hl (by decide) rfl (fun ls hl => ?_)
            refine lv_iinc (v := iZ (((j + 1 : Nat) : Int))) (lv' := [(4, .int (iZ (((j + 1 : Nat) : Int)))), (2, .int (iZ (((sm + rl (V (7 * i + j)) : Nat) : Int)))), (5, .int (iZ (((fr + (7 * i + j) : Nat) : Int)))), (3, .int (iZ (((i : Nat) : Int)))), (0, .ref (mo)), (1, .int (iZ (((fr : Nat) : Int))))]) hx hb dX11_meterOf_58 hl (k := 2) rfl (by rw [show ((j + 1 : Nat) : Int) = ((j : Nat) : Int) + 1 by omega]; exact iZ_add _ _) (by decide) rfl (fun ls hl => ?_)
            refine lv_goto (tgt := 15) hx hb dX11_meterOf_61 (by decide) ?_
            exact ih (j + 1) _ H locs ls (by omega) (by rw [hsr]; show _ = mta V nn i + (mtr V i j + rl (V (7 * i + j))); omega) (by omega) hP hD hS (lv_sub hl [0, 1, 3, 4, 5] rfl)
      refine lv_iload_n hx hb dX11_meterOf_4 rfl (lv_at hl 1 rfl) ?_
      refine lv_aload_n hx hb dX11_meterOf_5 rfl (lv_at hl 2 rfl) ?_
      refine va_get (D := D) (ci := 11) (v := .int (iZ (((nn : Nat) : Int)))) (C := RX11) (T := TX11) (N := 14) hx hb hts hin11 hown hK hP 0 rfl rfl 5 (by decide) q_f_RX11_26_LimbSolverModel_n_I (fun _ h9 => h9) rfl dX11_meterOf_6 ?_
      refine zr_icmp_ge hx hb 70 ⟨by omega, by omega⟩ ⟨by omega, by omega⟩ dX11_meterOf_9 (by decide) (fun h_9 => ?_) (fun h_9 => ?_)
      · exfalso; omega
      · refine lv_iconst (v := iZ 0) hx hb dX11_meterOf_12 rfl ?_
        refine lv_istore (lv' := [(4, .int (iZ (0))), (2, .int (iZ (((sm : Nat) : Int)))), (3, .int (iZ (((i : Nat) : Int)))), (0, .ref (mo)), (1, .int (iZ (((fr : Nat) : Int))))]) hx hb dX11_meterOf_13 hl (by decide) rfl (fun ls hl => ?_)
        exact inner (nn + 1) 0 sm H locs ls (by omega) hsa (by omega) hP hD hS (lv_sub hl [0, 1, 2, 3, 4] rfl)
  refine lv_iconst (v := iZ 0) hx hb dX11_meterOf_0 rfl ?_
  refine lv_istore_n (lv' := [(2, .int (iZ (0))), (0, .ref (mo)), (1, .int (iZ (((fr : Nat) : Int))))]) hx hb dX11_meterOf_1 rfl hl (by decide) rfl (fun ls hl => ?_)
  refine lv_iconst (v := iZ 0) hx hb dX11_meterOf_2 rfl ?_
  refine lv_istore_n (lv' := [(3, .int (iZ (0))), (2, .int (iZ (0))), (0, .ref (mo)), (1, .int (iZ (((fr : Nat) : Int))))]) hx hb dX11_meterOf_3 rfl hl (by decide) rfl (fun ls hl => ?_)
  exact lp nn 0 0 s.heap [] ls (by omega) rfl (by omega) hP hD hS (lv_sub hl [1, 0, 2, 3] rfl)

set_option maxHeartbeats 4000000 in
set_option maxRecDepth 100000 in
/-- Model.clear -/
theorem c_mclear (l : Launch) (D : va_G) (cI cJ cE cF cR : ClassId) (mo fg le sg tp bl pr rs nn : Nat) (dn sv rk tn ms th : Int) (F Ln Sg : Nat → Int) : Cv l D (zty cI cJ cE cF cR) yX11_clear wsX11_clear (zRm 3 75) 0 0 [.ref (mo)] [(mo, mo_ fg le sg tp bl pr rs (((nn : Nat) : Int)) (dn) (sv) (rk) (tn) (ms) (th)), (fg, aI cI (52200) (F)), (le, aI cI (190) (Ln)), (sg, aI cI (90) (Sg))] (fun w1 => ∃ (G L1 S1 : Nat → Int), w1 = [(mo, mo_ fg le sg tp bl pr rs (((nn : Nat) : Int)) (0) (sv) (rk) (tn) (ms) (th)), (fg, aI cI (52200) (G)), (le, aI cI (190) (L1)), (sg, aI cI (90) (S1))] ∧ (∀ g : Nat, g < 90 → 42 ≤ g → md_ef F Ln Sg G L1 S1 g) ∧ md_A G L1 S1 0 (fun _ => 0)) := by
  unfold Cv
  refine zs (Qc := zQv D _ _) (cc := cX11_clear) (maxL := 2) (ret := none) (by decide) rfl (Nat.le_of_ble_eq_true rfl) ?_
  intro zp ze s zm below meth zc ls A args Q hQ hx hb hr hts hown hlk hml hnm hN hA hK hP hD hS hl
  have q_f_RX11_109_LimbSolverModel_done_Z := hts (.fieldLink RX11 109 "LimbSolverModel" "done" "Z") (by decide +kernel)
  have hin11 : ∀ w ∈ wsX110, w ∈ wsX11_clear := by decide +kernel
  have hl : lv_has ls 2 [(0, .ref (mo))] := hl
  have lp : ∀ (t : Nat) (i : Nat) (G : Nat → Int) (L1 : Nat → Int) (S1 : Nat → Int) (H : Heap) (locs : List Loc) (ls : Array Slot), (i + t = 42) → (∀ g : Nat, g < 90 → 42 ≤ g → md_ef F Ln Sg G L1 S1 g) → (∀ j : Nat, j < i → md_f G L1 S1 j 0) →  va_P D vwCl [(mo, mo_ fg le sg tp bl pr rs (((nn : Nat) : Int)) (0) (sv) (rk) (tn) (ms) (th)), (fg, aI cI (52200) (G)), (le, aI cI (190) (L1)), (sg, aI cI (90) (S1))] H → va_D A [(mo, mo_ fg le sg tp bl pr rs (((nn : Nat) : Int)) (0) (sv) (rk) (tn) (ms) (th)), (fg, aI cI (52200) (G)), (le, aI cI (190) (L1)), (sg, aI cI (90) (S1))] → va_S A s.heap H locs → lv_has ls 2 [(1, .int (iZ (((i : Nat) : Int)))), (0, .ref (mo))] → W zp l ze (zRm 3 75) s zm args below meth zc H locs 0 0 Q (F0 zm 7 ls []) := by
    intro t
    induction t with
    | zero =>
      intro i G L1 S1 H locs ls hit hke hz hP hD hS hl
      refine lv_iload_n hx hb dX11_clear_7 rfl (lv_at hl 0 rfl) ?_
      refine lv_bipush (v := iZ 42) hx hb dX11_clear_8 (by decide) ?_
      refine zr_icmp_ge hx hb 24 ⟨by omega, by omega⟩ ⟨by omega, by omega⟩ dX11_clear_10 (by decide) (fun h_10 => ?_) (fun h_10 => ?_)
      · exact zr_vret hQ hx hb hr hlk dX11_clear_24 hK hP hD hS (by omega) (by omega) (⟨G, L1, S1, rfl, hke, fun j hj => by rw [Nat.zero_add]; exact hz j (by omega)⟩)
      · exfalso; omega
    | succ t ih =>
      intro i G L1 S1 H locs ls hit hke hz hP hD hS hl
      refine lv_iload_n hx hb dX11_clear_7 rfl (lv_at hl 0 rfl) ?_
      refine lv_bipush (v := iZ 42) hx hb dX11_clear_8 (by decide) ?_
      refine zr_icmp_ge hx hb 24 ⟨by omega, by omega⟩ ⟨by omega, by omega⟩ dX11_clear_10 (by decide) (fun h_10 => ?_) (fun h_10 => ?_)
      · exfalso; omega
      · refine lv_aload_n hx hb dX11_clear_13 rfl (lv_at hl 1 rfl) ?_
        refine lv_iload_n hx hb dX11_clear_14 rfl (lv_at hl 0 rfl) ?_
        refine zc_Vv (As := [.int (iZ (((i : Nat) : Int)))]) (rest := []) (wr := []) ⟨hx, hb, hml, hown, hts⟩ (c_mzero l D cI cJ cE cF cR mo fg le sg tp bl pr rs ((nn : Nat) : Int) (0) sv rk tn ms th i G L1 S1 (by omega)) (cwV 1 hts gX11_clear_X11_zero rfl rfl rfl (by decide +kernel) ⟨Nat.le_of_ble_eq_true rfl, Nat.le_of_ble_eq_true rfl⟩) hN hK hP hD hS hA [0, 1, 2, 3] [] rfl rfl (by decide) (by decide) (by decide) (q0 := 0) (ci := 11) rfl rfl rfl rfl hl.1 (Nat.le_of_ble_eq_true rfl) dX11_clear_15 ⟨by decide, by decide⟩ (fun w1 H locs hp hP hD hS => ?_)
        obtain ⟨G2, L2, S2, hw9, hk2, hG2⟩ := hp
        subst hw9
        have hP := hP.sub (ws' := [(mo, mo_ fg le sg tp bl pr rs (((nn : Nat) : Int)) (0) (sv) (rk) (tn) (ms) (th)), (fg, aI cI (52200) (G2)), (le, aI cI (190) (L2)), (sg, aI cI (90) (S2))]) [0, 1, 2, 3] rfl
        have hD := hD.sub (ws' := [(mo, mo_ fg le sg tp bl pr rs (((nn : Nat) : Int)) (0) (sv) (rk) (tn) (ms) (th)), (fg, aI cI (52200) (G2)), (le, aI cI (190) (L2)), (sg, aI cI (90) (S2))]) [0, 1, 2, 3] (by decide) rfl
        refine lv_iinc (v := iZ (((i + 1 : Nat) : Int))) (lv' := [(1, .int (iZ (((i + 1 : Nat) : Int)))), (0, .ref (mo))]) hx hb dX11_clear_18 hl (k := 0) rfl (by rw [show ((i + 1 : Nat) : Int) = ((i : Nat) : Int) + 1 by omega]; exact iZ_add _ _) (by decide) rfl (fun ls hl => ?_)
        refine lv_goto (tgt := 7) hx hb dX11_clear_21 (by decide) ?_
        exact ih (i + 1) G2 L2 S2 H locs ls (by omega) (fun g h1 h2 => ⟨(hke g h1 h2).1.trans (hk2 g h1 (by omega)).1, (hke g h1 h2).2.1.trans (hk2 g h1 (by omega)).2.1, (hk2 g h1 (by omega)).2.2.trans (hke g h1 h2).2.2⟩) (fun j hj => by by_cases q : j = i; (subst q; exact hG2); exact (hk2 j (by omega) q).f (hz j (by omega))) hP hD hS (lv_sub hl [0, 1] rfl)
  refine lv_aload_n hx hb dX11_clear_0 rfl (lv_at hl 0 rfl) ?_
  refine lv_iconst (v := iZ 0) hx hb dX11_clear_1 rfl ?_
  refine va_put (D := D) (ci := 11) (v := .int (iZ (0))) (ty := tyX11 6) (C := RX11) (T := TX11) (N := 14) hx hb hts hin11 tyX11 tyX11_ok nmX11 hown hK hP hD hS 0 rfl rfl 6 (by decide) q_f_RX11_109_LimbSolverModel_done_Z (fun _ h9 => h9) rfl (tyX11_ok 6 (by decide)) rfl rfl (Nat.le_of_ble_eq_true rfl) dX11_clear_2 (fun H locs hP hD hS => ?_)
  have hP : va_P D vwCl [(mo, mo_ fg le sg tp bl pr rs (((nn : Nat) : Int)) (0) (sv) (rk) (tn) (ms) (th)), (fg, aI cI (52200) (F)), (le, aI cI (190) (Ln)), (sg, aI cI (90) (Sg))] H := hP
  have hD : va_D A [(mo, mo_ fg le sg tp bl pr rs (((nn : Nat) : Int)) (0) (sv) (rk) (tn) (ms) (th)), (fg, aI cI (52200) (F)), (le, aI cI (190) (Ln)), (sg, aI cI (90) (Sg))] := hD
  refine lv_iconst (v := iZ 0) hx hb dX11_clear_5 rfl ?_
  refine lv_istore_n (lv' := [(1, .int (iZ (0))), (0, .ref (mo))]) hx hb dX11_clear_6 rfl hl (by decide) rfl (fun ls hl => ?_)
  exact lp 42 0 F Ln Sg H locs ls (by omega) (fun g _ _ => ⟨md_e.refl F Ln _, md_e.refl F Ln _, rfl⟩) (fun j hj => absurd hj (Nat.not_lt_zero j)) hP hD hS (lv_sub hl [0, 1] rfl)

set_option maxHeartbeats 4000000 in
set_option maxRecDepth 100000 in
/-- Model.setOne -/
theorem c_setOne (l : Launch) (D : va_G) (cI cJ cE cF cR : ClassId) (mo fg le sg tp bl pr rs nn : Nat) (dn sv rk tn ms th : Int) (f : Nat) (nm d9 : Int) (F Ln Sg : Nat → Int) (V : Nat → Rat) (hn : nn ≤ 6) (hf : f < 42) (hnm9 : iR nm) (hd9 : iR d9) (hd0 : d9 ≠ 0) (hAA : md_A F Ln Sg 0 V) : Ci l D (zty cI cJ cE cF cR) yX11_setOne wsX11_setOne (zRm 2 55) 0 0 [.ref (mo), .int (iZ (((f : Nat) : Int))), .int (iZ (nm)), .int (iZ (d9))] [(mo, mo_ fg le sg tp bl pr rs (((nn : Nat) : Int)) (dn) (sv) (rk) (tn) (ms) (th)), (fg, aI cI (52200) (F)), (le, aI cI (190) (Ln)), (sg, aI cI (90) (Sg))] (fun r w1 => ∃ (G L1 S1 : Nat → Int), w1 = [(mo, mo_ fg le sg tp bl pr rs (((nn : Nat) : Int)) (0) (sv) (rk) (tn) (ms) (th)), (fg, aI cI (52200) (G)), (le, aI cI (190) (L1)), (sg, aI cI (90) (S1))] ∧ (∀ g : Nat, g < 90 → g ≠ f → md_ef F Ln Sg G L1 S1 g) ∧ md_f G L1 S1 f (mkRat (if d9 < 0 then -nm else nm) d9.natAbs) ∧ r = ((mta (zu V f (mkRat (if d9 < 0 then -nm else nm) d9.natAbs)) nn nn : Nat) : Int)) := by
  unfold Ci
  refine zs (Qc := zQi D _ _) (cc := cX11_setOne) (maxL := 14) (ret := (some .int)) (by decide) rfl (Nat.le_of_ble_eq_true rfl) ?_
  intro zp ze s zm below meth zc ls A args Q hQ hx hb hr hts hown hlk hml hnm hN hA hK hP hD hS hl
  have q_f_RX11_109_LimbSolverModel_done_Z := hts (.fieldLink RX11 109 "LimbSolverModel" "done" "Z") (by decide +kernel)
  have hin11 : ∀ w ∈ wsX110, w ∈ wsX11_setOne := by decide +kernel
  have q_f_RX11_17_LimbSolverModel_sign_I := hts (.fieldLink RX11 17 "LimbSolverModel" "sign" "[I") (by decide +kernel)
  have hl : lv_has ls 14 [(0, .ref (mo)), (1, .int (iZ (((f : Nat) : Int)))), (2, .int (iZ (nm))), (3, .int (iZ (d9)))] := hl
  have hnm8 := hnm9.1
  have hnm7 := hnm9.2
  have hd8 := hd9.1
  have hd7 := hd9.2
  have hst := md_set (nm := nm) hd0 (mkRat (if d9 < 0 then -nm else nm) d9.natAbs) rfl
  have hG0 : 0 < Nat.gcd nm.natAbs d9.natAbs := Nat.gcd_pos_of_pos_right _ (by omega)
  have hGl := Nat.gcd_le_right nm.natAbs (show 0 < d9.natAbs by omega)
  have hq1 := Nat.div_le_self nm.natAbs (Nat.gcd nm.natAbs d9.natAbs)
  have hq2 := Nat.div_le_self d9.natAbs (Nat.gcd nm.natAbs d9.natAbs)
  have jn : ∀ (z : Int) (H : Heap) (locs : List Loc) (ls : Array Slot), (z = (mkRat (if d9 < 0 then -nm else nm) d9.natAbs).num.sign) →  va_P D vwCl [(mo, mo_ fg le sg tp bl pr rs (((nn : Nat) : Int)) (dn) (sv) (rk) (tn) (ms) (th)), (fg, aI cI (52200) (F)), (le, aI cI (190) (Ln)), (sg, aI cI (90) (Sg))] H → va_D A [(mo, mo_ fg le sg tp bl pr rs (((nn : Nat) : Int)) (dn) (sv) (rk) (tn) (ms) (th)), (fg, aI cI (52200) (F)), (le, aI cI (190) (Ln)), (sg, aI cI (90) (Sg))] → va_S A s.heap H locs → lv_has ls 14 [(8, .long (lZ (((Nat.gcd nm.natAbs d9.natAbs : Nat) : Int)))), (6, .long (lZ (((d9.natAbs : Nat) : Int)))), (4, .long (lZ (((nm.natAbs : Nat) : Int)))), (0, .ref (mo)), (1, .int (iZ (((f : Nat) : Int)))), (2, .int (iZ (nm))), (3, .int (iZ (d9)))] → W zp l ze (zRm 2 55) s zm args below meth zc H locs 0 0 Q (F0 zm 100 ls [.int (iZ (z)), .int (iZ (((f : Nat) : Int))), .ref (sg)]) := by
    intro z H locs ls hzs hP hD hS hl
    refine zr_iast hx hb hK hP hD hS 3 0 rfl rfl (f) (by omega) (by omega) (by omega) dX11_setOne_100 (fun H locs hP hD hS => ?_)
    have hP : va_P D vwCl [(mo, mo_ fg le sg tp bl pr rs (((nn : Nat) : Int)) (dn) (sv) (rk) (tn) (ms) (th)), (fg, aI cI (52200) (F)), (le, aI cI (190) (Ln)), (sg, aI cI (90) (zu (Sg) (f) (z)))] H := hP
    have hD : va_D A [(mo, mo_ fg le sg tp bl pr rs (((nn : Nat) : Int)) (dn) (sv) (rk) (tn) (ms) (th)), (fg, aI cI (52200) (F)), (le, aI cI (190) (Ln)), (sg, aI cI (90) (zu (Sg) (f) (z)))] := hD
    refine lv_aload_n hx hb dX11_setOne_101 rfl (lv_at hl 3 rfl) ?_
    refine lv_iconst (v := iZ 2) hx hb dX11_setOne_102 rfl ?_
    refine lv_iload_n hx hb dX11_setOne_103 rfl (lv_at hl 4 rfl) ?_
    refine zr_imul hx hb dX11_setOne_104 ?_
    refine zr_eqi (((2 * f : Nat) : Int)) (by omega) ?_
    refine lv_lload hx hb dX11_setOne_105 (lv_at hl 2 rfl) ?_
    refine lv_lload hx hb dX11_setOne_107 (lv_at hl 0 rfl) ?_
    refine zr_ldiv hx hb ⟨by omega, by omega⟩ ⟨by omega, by omega⟩ (by omega) (by omega) dX11_setOne_109 ?_
    refine zr_eql ((nm.natAbs / Nat.gcd nm.natAbs d9.natAbs : Nat) : Int) (Int.natCast_ediv _ _).symm ?_
    refine zc_Vv (As := [.int (iZ (((2 * f : Nat) : Int))), .long (lZ (((nm.natAbs / Nat.gcd nm.natAbs d9.natAbs : Nat) : Int)))]) (rest := []) (wr := [(sg, aI cI (90) (zu (Sg) (f) (z)))]) ⟨hx, hb, hml, hown, hts⟩ (c_mput l D cI cJ cE cF cR mo fg le sg tp bl pr rs ((nn : Nat) : Int) dn sv rk tn ms th (2 * f) F Ln ((nm.natAbs / Nat.gcd nm.natAbs d9.natAbs : Nat) : Int) (by omega) ⟨by omega, by omega⟩) (cwV 2 hts gX11_setOne_X11_put rfl rfl rfl (by decide +kernel) ⟨Nat.le_of_ble_eq_true rfl, Nat.le_of_ble_eq_true rfl⟩) hN hK hP hD hS hA [0, 1, 2] [3] rfl rfl (by decide) (by decide) (by decide) (q0 := 0) (ci := 11) rfl rfl rfl rfl hl.1 (Nat.le_of_ble_eq_true rfl) dX11_setOne_110 ⟨by decide, by decide⟩ (fun w1 H locs hp hP hD hS => ?_)
    obtain ⟨G, L1, hw9, hG⟩ := hp
    subst hw9
    have hP := hP.sub (ws' := [(mo, mo_ fg le sg tp bl pr rs (((nn : Nat) : Int)) (dn) (sv) (rk) (tn) (ms) (th)), (fg, aI cI (52200) (G)), (le, aI cI (190) (L1)), (sg, aI cI (90) (zu (Sg) (f) (z)))]) [1, 2, 3, 0] rfl
    have hD := hD.sub (ws' := [(mo, mo_ fg le sg tp bl pr rs (((nn : Nat) : Int)) (dn) (sv) (rk) (tn) (ms) (th)), (fg, aI cI (52200) (G)), (le, aI cI (190) (L1)), (sg, aI cI (90) (zu (Sg) (f) (z)))]) [1, 2, 3, 0] (by decide) rfl
    refine lv_aload_n hx hb dX11_setOne_113 rfl (lv_at hl 3 rfl) ?_
    refine lv_iconst (v := iZ 2) hx hb dX11_setOne_114 rfl ?_
    refine lv_iload_n hx hb dX11_setOne_115 rfl (lv_at hl 4 rfl) ?_
    refine zr_imul hx hb dX11_setOne_116 ?_
    refine lv_iconst (v := iZ 1) hx hb dX11_setOne_117 rfl ?_
    refine zr_iadd hx hb dX11_setOne_118 ?_
    refine zr_eqi (((2 * f + 1 : Nat) : Int)) (by omega) ?_
    refine lv_lload hx hb dX11_setOne_119 (lv_at hl 1 rfl) ?_
    refine lv_lload hx hb dX11_setOne_121 (lv_at hl 0 rfl) ?_
    refine zr_ldiv hx hb ⟨by omega, by omega⟩ ⟨by omega, by omega⟩ (by omega) (by omega) dX11_setOne_123 ?_
    refine zr_eql ((d9.natAbs / Nat.gcd nm.natAbs d9.natAbs : Nat) : Int) (Int.natCast_ediv _ _).symm ?_
    refine zc_Vv (As := [.int (iZ (((2 * f + 1 : Nat) : Int))), .long (lZ (((d9.natAbs / Nat.gcd nm.natAbs d9.natAbs : Nat) : Int)))]) (rest := []) (wr := [(sg, aI cI (90) (zu (Sg) (f) (z)))]) ⟨hx, hb, hml, hown, hts⟩ (c_mput l D cI cJ cE cF cR mo fg le sg tp bl pr rs ((nn : Nat) : Int) dn sv rk tn ms th (2 * f + 1) G L1 ((d9.natAbs / Nat.gcd nm.natAbs d9.natAbs : Nat) : Int) (by omega) ⟨by omega, by omega⟩) (cwV 2 hts gX11_setOne_X11_put rfl rfl rfl (by decide +kernel) ⟨Nat.le_of_ble_eq_true rfl, Nat.le_of_ble_eq_true rfl⟩) hN hK hP hD hS hA [0, 1, 2] [3] rfl rfl (by decide) (by decide) (by decide) (q0 := 0) (ci := 11) rfl rfl rfl rfl hl.1 (Nat.le_of_ble_eq_true rfl) dX11_setOne_124 ⟨by decide, by decide⟩ (fun w1 H locs hp hP hD hS => ?_)
    obtain ⟨G2, L2, hw9, hG2⟩ := hp
    subst hw9
    have hP := hP.sub (ws' := [(mo, mo_ fg le sg tp bl pr rs (((nn : Nat) : Int)) (dn) (sv) (rk) (tn) (ms) (th)), (fg, aI cI (52200) (G2)), (le, aI cI (190) (L2)), (sg, aI cI (90) (zu (Sg) (f) (z)))]) [1, 2, 3, 0] rfl
    have hD := hD.sub (ws' := [(mo, mo_ fg le sg tp bl pr rs (((nn : Nat) : Int)) (dn) (sv) (rk) (tn) (ms) (th)), (fg, aI cI (52200) (G2)), (le, aI cI (190) (L2)), (sg, aI cI (90) (zu (Sg) (f) (z)))]) [1, 2, 3, 0] (by decide) rfl
    have hkf : ∀ g : Nat, g < 90 → g ≠ f → md_ef F Ln Sg G2 L2 (zu Sg f z) g := fun g h1 h2 => ⟨(hG.1 _ (by omega) (by omega)).trans (hG2.1 _ (by omega) (by omega)), (hG.1 _ (by omega) (by omega)).trans (hG2.1 _ (by omega) (by omega)), zu_n Sg _ h2⟩
    have hff : md_f G2 L2 (zu Sg f z) f (mkRat (if d9 < 0 then -nm else nm) d9.natAbs) := ⟨(zu_s _ _ _).trans hzs, by rw [hst.1]; exact (hG2.1 _ (by omega) (by omega)).n hG.2, by rw [hst.2.1]; exact hG2.2⟩
    have hA2 := hAA.upd hkf hff
    have hmb := mta_le hA2 (by decide) hn
    refine lv_aload_n hx hb dX11_setOne_127 rfl (lv_at hl 3 rfl) ?_
    refine lv_iconst (v := iZ 0) hx hb dX11_setOne_128 rfl ?_
    refine va_put (D := D) (ci := 11) (v := .int (iZ (0))) (ty := tyX11 6) (C := RX11) (T := TX11) (N := 14) hx hb hts hin11 tyX11 tyX11_ok nmX11 hown hK hP hD hS 0 rfl rfl 6 (by decide) q_f_RX11_109_LimbSolverModel_done_Z (fun _ h9 => h9) rfl (tyX11_ok 6 (by decide)) rfl rfl (Nat.le_of_ble_eq_true rfl) dX11_setOne_129 (fun H locs hP hD hS => ?_)
    have hP : va_P D vwCl [(mo, mo_ fg le sg tp bl pr rs (((nn : Nat) : Int)) (0) (sv) (rk) (tn) (ms) (th)), (fg, aI cI (52200) (G2)), (le, aI cI (190) (L2)), (sg, aI cI (90) (zu (Sg) (f) (z)))] H := hP
    have hD : va_D A [(mo, mo_ fg le sg tp bl pr rs (((nn : Nat) : Int)) (0) (sv) (rk) (tn) (ms) (th)), (fg, aI cI (52200) (G2)), (le, aI cI (190) (L2)), (sg, aI cI (90) (zu (Sg) (f) (z)))] := hD
    refine lv_aload_n hx hb dX11_setOne_132 rfl (lv_at hl 3 rfl) ?_
    refine lv_iconst (v := iZ 0) hx hb dX11_setOne_133 rfl ?_
    refine zr_eqi (((0 : Nat) : Int)) (by rfl) ?_
    refine zc_Vi (As := [.int (iZ (((0 : Nat) : Int)))]) (rest := []) (wr := [(fg, aI cI (52200) (G2)), (sg, aI cI (90) (zu (Sg) (f) (z)))]) ⟨hx, hb, hml, hown, hts⟩ (c_meterOf l D cI cJ cE cF cR mo fg le sg tp bl pr rs nn (0) sv rk tn ms th 0 G2 L2 (zu Sg f z) (zu V f (mkRat (if d9 < 0 then -nm else nm) d9.natAbs)) hn (by decide) hA2) (cwV 1 hts gX11_setOne_X11_meterOf rfl rfl rfl (by decide +kernel) ⟨Nat.le_of_ble_eq_true rfl, Nat.le_of_ble_eq_true rfl⟩) hN hK hP hD hS hA [0, 2] [1, 3] rfl rfl (by decide) (by decide) (by decide) (q0 := 0) (ci := 11) rfl rfl rfl rfl hl.1 (Nat.le_of_ble_eq_true rfl) dX11_setOne_134 ⟨by decide, by decide⟩ (fun rm w1 H locs hz134 hp hP hD hS => ?_)
    obtain ⟨hw9, hr0⟩ := hp
    subst hw9
    have hP := hP.sub (ws' := [(mo, mo_ fg le sg tp bl pr rs (((nn : Nat) : Int)) (0) (sv) (rk) (tn) (ms) (th)), (fg, aI cI (52200) (G2)), (le, aI cI (190) (L2)), (sg, aI cI (90) (zu (Sg) (f) (z)))]) [2, 0, 3, 1] rfl
    have hD := hD.sub (ws' := [(mo, mo_ fg le sg tp bl pr rs (((nn : Nat) : Int)) (0) (sv) (rk) (tn) (ms) (th)), (fg, aI cI (52200) (G2)), (le, aI cI (190) (L2)), (sg, aI cI (90) (zu (Sg) (f) (z)))]) [2, 0, 3, 1] (by decide) rfl
    exact zr_iret hQ hx hb hr hlk dX11_setOne_137 hK hP hD hS (by omega) (by omega) ⟨by rw [hr0]; omega, by rw [hr0]; omega⟩ (⟨G2, L2, _, rfl, hkf, hff, hr0⟩)
  have lp : ∀ (t : Nat) (g : Nat) (h : Nat) (H : Heap) (locs : List Loc) (ls : Array Slot), (h ≤ t) → (g < 9223372036854775808) → (h < 9223372036854775808) → (Nat.gcd g h = Nat.gcd nm.natAbs d9.natAbs) →  va_P D vwCl [(mo, mo_ fg le sg tp bl pr rs (((nn : Nat) : Int)) (dn) (sv) (rk) (tn) (ms) (th)), (fg, aI cI (52200) (F)), (le, aI cI (190) (Ln)), (sg, aI cI (90) (Sg))] H → va_D A [(mo, mo_ fg le sg tp bl pr rs (((nn : Nat) : Int)) (dn) (sv) (rk) (tn) (ms) (th)), (fg, aI cI (52200) (F)), (le, aI cI (190) (Ln)), (sg, aI cI (90) (Sg))] → va_S A s.heap H locs → lv_has ls 14 [(10, .long (lZ (((h : Nat) : Int)))), (8, .long (lZ (((g : Nat) : Int)))), (6, .long (lZ (((d9.natAbs : Nat) : Int)))), (4, .long (lZ (((nm.natAbs : Nat) : Int)))), (0, .ref (mo)), (1, .int (iZ (((f : Nat) : Int)))), (2, .int (iZ (nm))), (3, .int (iZ (d9)))] → W zp l ze (zRm 2 55) s zm args below meth zc H locs 0 0 Q (F0 zm 36 ls []) := by
    intro t
    induction t with
    | zero =>
      intro g h H locs ls hht hg9 hh9 hgc hP hD hS hl
      refine lv_lload hx hb dX11_setOne_36 (lv_at hl 0 rfl) ?_
      refine lv_lconst (v := lZ 0) hx hb dX11_setOne_38 rfl ?_
      refine zr_lcmp_le hx hb 61 ⟨by omega, by omega⟩ ⟨by omega, by omega⟩ dX11_setOne_39 dX11_setOne_40 (by decide) (fun h_39 => ?_) (fun h_39 => ?_)
      · have hgG : g = Nat.gcd nm.natAbs d9.natAbs := by rw [← hgc, show h = 0 by omega, Nat.gcd_zero_right]
        have hl : lv_has ls 14 [(8, .long (lZ (((Nat.gcd nm.natAbs d9.natAbs : Nat) : Int)))), (6, .long (lZ (((d9.natAbs : Nat) : Int)))), (4, .long (lZ (((nm.natAbs : Nat) : Int)))), (0, .ref (mo)), (1, .int (iZ (((f : Nat) : Int)))), (2, .int (iZ (nm))), (3, .int (iZ (d9)))] := by rw [← hgG]; exact lv_sub hl [1, 2, 3, 4, 5, 6, 7] rfl
        refine lv_aload_n hx hb dX11_setOne_61 rfl (lv_at hl 3 rfl) ?_
        refine va_get (D := D) (ci := 11) (v := .ref (sg)) (C := RX11) (T := TX11) (N := 14) hx hb hts hin11 hown hK hP 0 rfl rfl 2 (by decide) q_f_RX11_17_LimbSolverModel_sign_I (fun _ h9 => h9) rfl dX11_setOne_62 ?_
        refine lv_iload_n hx hb dX11_setOne_65 rfl (lv_at hl 4 rfl) ?_
        refine lv_iload_n hx hb dX11_setOne_66 rfl (lv_at hl 5 rfl) ?_
        refine zr_if_ne hx hb 74 hnm9 dX11_setOne_67 (by decide) (fun h_67 => ?_) (fun h_67 => ?_)
        · refine lv_iload_n hx hb dX11_setOne_74 rfl (lv_at hl 5 rfl) ?_
          refine zr_if_ge hx hb 82 hnm9 dX11_setOne_75 (by decide) (fun h_75 => ?_) (fun h_75 => ?_)
          · refine lv_iconst (v := iZ 0) hx hb dX11_setOne_82 rfl ?_
            refine lv_iload_n hx hb dX11_setOne_83 rfl (lv_at hl 6 rfl) ?_
            refine zr_if_ge hx hb 91 hd9 dX11_setOne_84 (by decide) (fun h_84 => ?_) (fun h_84 => ?_)
            · refine lv_iconst (v := iZ 0) hx hb dX11_setOne_91 rfl ?_
              refine zr_icmp_ne hx hb 99 (by decide) (by decide) dX11_setOne_92 (by decide) (fun h_92 => ?_) (fun h_92 => ?_)
              · refine lv_iconst (v := iZ (-1)) hx hb dX11_setOne_99 rfl ?_
                exact jn _ H locs ls (by rcases hst.2.2 with ⟨q1, q2⟩ | ⟨q1, q2, q3⟩ | ⟨q1, q2, q3⟩; (first | exact q2.symm | (exfalso; omega)); (first | exact q3.symm | (exfalso; omega)); (first | exact q3.symm | (exfalso; omega))) hP hD hS (lv_sub hl [0, 1, 2, 3, 4, 5, 6] rfl)
              · refine lv_iconst (v := iZ 1) hx hb dX11_setOne_95 rfl ?_
                refine lv_goto (tgt := 100) hx hb dX11_setOne_96 (by decide) ?_
                exact jn _ H locs ls (by rcases hst.2.2 with ⟨q1, q2⟩ | ⟨q1, q2, q3⟩ | ⟨q1, q2, q3⟩; (first | exact q2.symm | (exfalso; omega)); (first | exact q3.symm | (exfalso; omega)); (first | exact q3.symm | (exfalso; omega))) hP hD hS (lv_sub hl [0, 1, 2, 3, 4, 5, 6] rfl)
            · refine lv_iconst (v := iZ 1) hx hb dX11_setOne_87 rfl ?_
              refine lv_goto (tgt := 92) hx hb dX11_setOne_88 (by decide) ?_
              refine zr_icmp_ne hx hb 99 (by decide) (by decide) dX11_setOne_92 (by decide) (fun h_92 => ?_) (fun h_92 => ?_)
              · refine lv_iconst (v := iZ (-1)) hx hb dX11_setOne_99 rfl ?_
                exact jn _ H locs ls (by rcases hst.2.2 with ⟨q1, q2⟩ | ⟨q1, q2, q3⟩ | ⟨q1, q2, q3⟩; (first | exact q2.symm | (exfalso; omega)); (first | exact q3.symm | (exfalso; omega)); (first | exact q3.symm | (exfalso; omega))) hP hD hS (lv_sub hl [0, 1, 2, 3, 4, 5, 6] rfl)
              · refine lv_iconst (v := iZ 1) hx hb dX11_setOne_95 rfl ?_
                refine lv_goto (tgt := 100) hx hb dX11_setOne_96 (by decide) ?_
                exact jn _ H locs ls (by rcases hst.2.2 with ⟨q1, q2⟩ | ⟨q1, q2, q3⟩ | ⟨q1, q2, q3⟩; (first | exact q2.symm | (exfalso; omega)); (first | exact q3.symm | (exfalso; omega)); (first | exact q3.symm | (exfalso; omega))) hP hD hS (lv_sub hl [0, 1, 2, 3, 4, 5, 6] rfl)
          · refine lv_iconst (v := iZ 1) hx hb dX11_setOne_78 rfl ?_
            refine lv_goto (tgt := 83) hx hb dX11_setOne_79 (by decide) ?_
            refine lv_iload_n hx hb dX11_setOne_83 rfl (lv_at hl 6 rfl) ?_
            refine zr_if_ge hx hb 91 hd9 dX11_setOne_84 (by decide) (fun h_84 => ?_) (fun h_84 => ?_)
            · refine lv_iconst (v := iZ 0) hx hb dX11_setOne_91 rfl ?_
              refine zr_icmp_ne hx hb 99 (by decide) (by decide) dX11_setOne_92 (by decide) (fun h_92 => ?_) (fun h_92 => ?_)
              · refine lv_iconst (v := iZ (-1)) hx hb dX11_setOne_99 rfl ?_
                exact jn _ H locs ls (by rcases hst.2.2 with ⟨q1, q2⟩ | ⟨q1, q2, q3⟩ | ⟨q1, q2, q3⟩; (first | exact q2.symm | (exfalso; omega)); (first | exact q3.symm | (exfalso; omega)); (first | exact q3.symm | (exfalso; omega))) hP hD hS (lv_sub hl [0, 1, 2, 3, 4, 5, 6] rfl)
              · refine lv_iconst (v := iZ 1) hx hb dX11_setOne_95 rfl ?_
                refine lv_goto (tgt := 100) hx hb dX11_setOne_96 (by decide) ?_
                exact jn _ H locs ls (by rcases hst.2.2 with ⟨q1, q2⟩ | ⟨q1, q2, q3⟩ | ⟨q1, q2, q3⟩; (first | exact q2.symm | (exfalso; omega)); (first | exact q3.symm | (exfalso; omega)); (first | exact q3.symm | (exfalso; omega))) hP hD hS (lv_sub hl [0, 1, 2, 3, 4, 5, 6] rfl)
            · refine lv_iconst (v := iZ 1) hx hb dX11_setOne_87 rfl ?_
              refine lv_goto (tgt := 92) hx hb dX11_setOne_88 (by decide) ?_
              refine zr_icmp_ne hx hb 99 (by decide) (by decide) dX11_setOne_92 (by decide) (fun h_92 => ?_) (fun h_92 => ?_)
              · refine lv_iconst (v := iZ (-1)) hx hb dX11_setOne_99 rfl ?_
                exact jn _ H locs ls (by rcases hst.2.2 with ⟨q1, q2⟩ | ⟨q1, q2, q3⟩ | ⟨q1, q2, q3⟩; (first | exact q2.symm | (exfalso; omega)); (first | exact q3.symm | (exfalso; omega)); (first | exact q3.symm | (exfalso; omega))) hP hD hS (lv_sub hl [0, 1, 2, 3, 4, 5, 6] rfl)
              · refine lv_iconst (v := iZ 1) hx hb dX11_setOne_95 rfl ?_
                refine lv_goto (tgt := 100) hx hb dX11_setOne_96 (by decide) ?_
                exact jn _ H locs ls (by rcases hst.2.2 with ⟨q1, q2⟩ | ⟨q1, q2, q3⟩ | ⟨q1, q2, q3⟩; (first | exact q2.symm | (exfalso; omega)); (first | exact q3.symm | (exfalso; omega)); (first | exact q3.symm | (exfalso; omega))) hP hD hS (lv_sub hl [0, 1, 2, 3, 4, 5, 6] rfl)
        · refine lv_iconst (v := iZ 0) hx hb dX11_setOne_70 rfl ?_
          refine lv_goto (tgt := 100) hx hb dX11_setOne_71 (by decide) ?_
          exact jn _ H locs ls (by rcases hst.2.2 with ⟨q1, q2⟩ | ⟨q1, q2, q3⟩ | ⟨q1, q2, q3⟩; (first | exact q2.symm | (exfalso; omega)); (first | exact q3.symm | (exfalso; omega)); (first | exact q3.symm | (exfalso; omega))) hP hD hS (lv_sub hl [0, 1, 2, 3, 4, 5, 6] rfl)
      · exfalso; omega
    | succ t ih =>
      intro g h H locs ls hht hg9 hh9 hgc hP hD hS hl
      refine lv_lload hx hb dX11_setOne_36 (lv_at hl 0 rfl) ?_
      refine lv_lconst (v := lZ 0) hx hb dX11_setOne_38 rfl ?_
      refine zr_lcmp_le hx hb 61 ⟨by omega, by omega⟩ ⟨by omega, by omega⟩ dX11_setOne_39 dX11_setOne_40 (by decide) (fun h_39 => ?_) (fun h_39 => ?_)
      · have hgG : g = Nat.gcd nm.natAbs d9.natAbs := by rw [← hgc, show h = 0 by omega, Nat.gcd_zero_right]
        have hl : lv_has ls 14 [(8, .long (lZ (((Nat.gcd nm.natAbs d9.natAbs : Nat) : Int)))), (6, .long (lZ (((d9.natAbs : Nat) : Int)))), (4, .long (lZ (((nm.natAbs : Nat) : Int)))), (0, .ref (mo)), (1, .int (iZ (((f : Nat) : Int)))), (2, .int (iZ (nm))), (3, .int (iZ (d9)))] := by rw [← hgG]; exact lv_sub hl [1, 2, 3, 4, 5, 6, 7] rfl
        refine lv_aload_n hx hb dX11_setOne_61 rfl (lv_at hl 3 rfl) ?_
        refine va_get (D := D) (ci := 11) (v := .ref (sg)) (C := RX11) (T := TX11) (N := 14) hx hb hts hin11 hown hK hP 0 rfl rfl 2 (by decide) q_f_RX11_17_LimbSolverModel_sign_I (fun _ h9 => h9) rfl dX11_setOne_62 ?_
        refine lv_iload_n hx hb dX11_setOne_65 rfl (lv_at hl 4 rfl) ?_
        refine lv_iload_n hx hb dX11_setOne_66 rfl (lv_at hl 5 rfl) ?_
        refine zr_if_ne hx hb 74 hnm9 dX11_setOne_67 (by decide) (fun h_67 => ?_) (fun h_67 => ?_)
        · refine lv_iload_n hx hb dX11_setOne_74 rfl (lv_at hl 5 rfl) ?_
          refine zr_if_ge hx hb 82 hnm9 dX11_setOne_75 (by decide) (fun h_75 => ?_) (fun h_75 => ?_)
          · refine lv_iconst (v := iZ 0) hx hb dX11_setOne_82 rfl ?_
            refine lv_iload_n hx hb dX11_setOne_83 rfl (lv_at hl 6 rfl) ?_
            refine zr_if_ge hx hb 91 hd9 dX11_setOne_84 (by decide) (fun h_84 => ?_) (fun h_84 => ?_)
            · refine lv_iconst (v := iZ 0) hx hb dX11_setOne_91 rfl ?_
              refine zr_icmp_ne hx hb 99 (by decide) (by decide) dX11_setOne_92 (by decide) (fun h_92 => ?_) (fun h_92 => ?_)
              · refine lv_iconst (v := iZ (-1)) hx hb dX11_setOne_99 rfl ?_
                exact jn _ H locs ls (by rcases hst.2.2 with ⟨q1, q2⟩ | ⟨q1, q2, q3⟩ | ⟨q1, q2, q3⟩; (first | exact q2.symm | (exfalso; omega)); (first | exact q3.symm | (exfalso; omega)); (first | exact q3.symm | (exfalso; omega))) hP hD hS (lv_sub hl [0, 1, 2, 3, 4, 5, 6] rfl)
              · refine lv_iconst (v := iZ 1) hx hb dX11_setOne_95 rfl ?_
                refine lv_goto (tgt := 100) hx hb dX11_setOne_96 (by decide) ?_
                exact jn _ H locs ls (by rcases hst.2.2 with ⟨q1, q2⟩ | ⟨q1, q2, q3⟩ | ⟨q1, q2, q3⟩; (first | exact q2.symm | (exfalso; omega)); (first | exact q3.symm | (exfalso; omega)); (first | exact q3.symm | (exfalso; omega))) hP hD hS (lv_sub hl [0, 1, 2, 3, 4, 5, 6] rfl)
            · refine lv_iconst (v := iZ 1) hx hb dX11_setOne_87 rfl ?_
              refine lv_goto (tgt := 92) hx hb dX11_setOne_88 (by decide) ?_
              refine zr_icmp_ne hx hb 99 (by decide) (by decide) dX11_setOne_92 (by decide) (fun h_92 => ?_) (fun h_92 => ?_)
              · refine lv_iconst (v := iZ (-1)) hx hb dX11_setOne_99 rfl ?_
                exact jn _ H locs ls (by rcases hst.2.2 with ⟨q1, q2⟩ | ⟨q1, q2, q3⟩ | ⟨q1, q2, q3⟩; (first | exact q2.symm | (exfalso; omega)); (first | exact q3.symm | (exfalso; omega)); (first | exact q3.symm | (exfalso; omega))) hP hD hS (lv_sub hl [0, 1, 2, 3, 4, 5, 6] rfl)
              · refine lv_iconst (v := iZ 1) hx hb dX11_setOne_95 rfl ?_
                refine lv_goto (tgt := 100) hx hb dX11_setOne_96 (by decide) ?_
                exact jn _ H locs ls (by rcases hst.2.2 with ⟨q1, q2⟩ | ⟨q1, q2, q3⟩ | ⟨q1, q2, q3⟩; (first | exact q2.symm | (exfalso; omega)); (first | exact q3.symm | (exfalso; omega)); (first | exact q3.symm | (exfalso; omega))) hP hD hS (lv_sub hl [0, 1, 2, 3, 4, 5, 6] rfl)
          · refine lv_iconst (v := iZ 1) hx hb dX11_setOne_78 rfl ?_
            refine lv_goto (tgt := 83) hx hb dX11_setOne_79 (by decide) ?_
            refine lv_iload_n hx hb dX11_setOne_83 rfl (lv_at hl 6 rfl) ?_
            refine zr_if_ge hx hb 91 hd9 dX11_setOne_84 (by decide) (fun h_84 => ?_) (fun h_84 => ?_)
            · refine lv_iconst (v := iZ 0) hx hb dX11_setOne_91 rfl ?_
              refine zr_icmp_ne hx hb 99 (by decide) (by decide) dX11_setOne_92 (by decide) (fun h_92 => ?_) (fun h_92 => ?_)
              · refine lv_iconst (v := iZ (-1)) hx hb dX11_setOne_99 rfl ?_
                exact jn _ H locs ls (by rcases hst.2.2 with ⟨q1, q2⟩ | ⟨q1, q2, q3⟩ | ⟨q1, q2, q3⟩; (first | exact q2.symm | (exfalso; omega)); (first | exact q3.symm | (exfalso; omega)); (first | exact q3.symm | (exfalso; omega))) hP hD hS (lv_sub hl [0, 1, 2, 3, 4, 5, 6] rfl)
              · refine lv_iconst (v := iZ 1) hx hb dX11_setOne_95 rfl ?_
                refine lv_goto (tgt := 100) hx hb dX11_setOne_96 (by decide) ?_
                exact jn _ H locs ls (by rcases hst.2.2 with ⟨q1, q2⟩ | ⟨q1, q2, q3⟩ | ⟨q1, q2, q3⟩; (first | exact q2.symm | (exfalso; omega)); (first | exact q3.symm | (exfalso; omega)); (first | exact q3.symm | (exfalso; omega))) hP hD hS (lv_sub hl [0, 1, 2, 3, 4, 5, 6] rfl)
            · refine lv_iconst (v := iZ 1) hx hb dX11_setOne_87 rfl ?_
              refine lv_goto (tgt := 92) hx hb dX11_setOne_88 (by decide) ?_
              refine zr_icmp_ne hx hb 99 (by decide) (by decide) dX11_setOne_92 (by decide) (fun h_92 => ?_) (fun h_92 => ?_)
              · refine lv_iconst (v := iZ (-1)) hx hb dX11_setOne_99 rfl ?_
                exact jn _ H locs ls (by rcases hst.2.2 with ⟨q1, q2⟩ | ⟨q1, q2, q3⟩ | ⟨q1, q2, q3⟩; (first | exact q2.symm | (exfalso; omega)); (first | exact q3.symm | (exfalso; omega)); (first | exact q3.symm | (exfalso; omega))) hP hD hS (lv_sub hl [0, 1, 2, 3, 4, 5, 6] rfl)
              · refine lv_iconst (v := iZ 1) hx hb dX11_setOne_95 rfl ?_
                refine lv_goto (tgt := 100) hx hb dX11_setOne_96 (by decide) ?_
                exact jn _ H locs ls (by rcases hst.2.2 with ⟨q1, q2⟩ | ⟨q1, q2, q3⟩ | ⟨q1, q2, q3⟩; (first | exact q2.symm | (exfalso; omega)); (first | exact q3.symm | (exfalso; omega)); (first | exact q3.symm | (exfalso; omega))) hP hD hS (lv_sub hl [0, 1, 2, 3, 4, 5, 6] rfl)
        · refine lv_iconst (v := iZ 0) hx hb dX11_setOne_70 rfl ?_
          refine lv_goto (tgt := 100) hx hb dX11_setOne_71 (by decide) ?_
          exact jn _ H locs ls (by rcases hst.2.2 with ⟨q1, q2⟩ | ⟨q1, q2, q3⟩ | ⟨q1, q2, q3⟩; (first | exact q2.symm | (exfalso; omega)); (first | exact q3.symm | (exfalso; omega)); (first | exact q3.symm | (exfalso; omega))) hP hD hS (lv_sub hl [0, 1, 2, 3, 4, 5, 6] rfl)
      · refine lv_lload hx hb dX11_setOne_43 (lv_at hl 1 rfl) ?_
        refine lv_lload hx hb dX11_setOne_45 (lv_at hl 0 rfl) ?_
        refine zr_lrem hx hb ⟨by omega, by omega⟩ ⟨by omega, by omega⟩ (by omega) (by omega) dX11_setOne_47 ?_
        refine zr_eql ((g % h : Nat) : Int) (Int.natCast_emod g h).symm ?_
        refine lv_lstore (lv' := [(12, .long (lZ (((g % h : Nat) : Int)))), (10, .long (lZ (((h : Nat) : Int)))), (8, .long (lZ (((g : Nat) : Int)))), (6, .long (lZ (((d9.natAbs : Nat) : Int)))), (4, .long (lZ (((nm.natAbs : Nat) : Int)))), (0, .ref (mo)), (1, .int (iZ (((f : Nat) : Int)))), (2, .int (iZ (nm))), (3, .int (iZ (d9)))]) hx hb dX11_setOne_48 hl (by decide) rfl (fun ls hl => ?_)
        refine lv_lload hx hb dX11_setOne_50 (lv_at hl 1 rfl) ?_
        refine lv_lstore (lv' := [(8, .long (lZ (((h : Nat) : Int)))), (12, .long (lZ (((g % h : Nat) : Int)))), (10, .long (lZ (((h : Nat) : Int)))), (6, .long (lZ (((d9.natAbs : Nat) : Int)))), (4, .long (lZ (((nm.natAbs : Nat) : Int)))), (0, .ref (mo)), (1, .int (iZ (((f : Nat) : Int)))), (2, .int (iZ (nm))), (3, .int (iZ (d9)))]) hx hb dX11_setOne_52 hl (by decide) rfl (fun ls hl => ?_)
        refine lv_lload hx hb dX11_setOne_54 (lv_at hl 1 rfl) ?_
        refine lv_lstore (lv' := [(10, .long (lZ (((g % h : Nat) : Int)))), (8, .long (lZ (((h : Nat) : Int)))), (12, .long (lZ (((g % h : Nat) : Int)))), (6, .long (lZ (((d9.natAbs : Nat) : Int)))), (4, .long (lZ (((nm.natAbs : Nat) : Int)))), (0, .ref (mo)), (1, .int (iZ (((f : Nat) : Int)))), (2, .int (iZ (nm))), (3, .int (iZ (d9)))]) hx hb dX11_setOne_56 hl (by decide) rfl (fun ls hl => ?_)
        refine lv_goto (tgt := 36) hx hb dX11_setOne_58 (by decide) ?_
        exact ih h (g % h) H locs ls (by have := Nat.mod_lt g (show 0 < h by omega); omega) (by omega) (by have := Nat.mod_lt g (show 0 < h by omega); omega) (by rw [← hgc, Nat.gcd_comm g h, Nat.gcd_rec h g, Nat.gcd_comm]) hP hD hS (lv_sub hl [0, 1, 3, 4, 5, 6, 7, 8] rfl)
  refine lv_iload_n hx hb dX11_setOne_0 rfl (lv_at hl 2 rfl) ?_
  refine zr_if_ge hx hb 10 hnm9 dX11_setOne_1 (by decide) (fun h_1 => ?_) (fun h_1 => ?_)
  · refine lv_iload_n hx hb dX11_setOne_10 rfl (lv_at hl 2 rfl) ?_
    refine zr_i2l hx hb hnm9 dX11_setOne_11 ?_
    refine zr_eql ((nm.natAbs : Nat) : Int) (by omega) ?_
    refine lv_lstore (lv' := [(4, .long (lZ (((nm.natAbs : Nat) : Int)))), (0, .ref (mo)), (1, .int (iZ (((f : Nat) : Int)))), (2, .int (iZ (nm))), (3, .int (iZ (d9)))]) hx hb dX11_setOne_12 hl (by decide) rfl (fun ls hl => ?_)
    refine lv_iload_n hx hb dX11_setOne_14 rfl (lv_at hl 4 rfl) ?_
    refine zr_if_ge hx hb 24 hd9 dX11_setOne_15 (by decide) (fun h_15 => ?_) (fun h_15 => ?_)
    · refine lv_iload_n hx hb dX11_setOne_24 rfl (lv_at hl 4 rfl) ?_
      refine zr_i2l hx hb hd9 dX11_setOne_25 ?_
      refine zr_eql ((d9.natAbs : Nat) : Int) (by omega) ?_
      refine lv_lstore (lv' := [(6, .long (lZ (((d9.natAbs : Nat) : Int)))), (4, .long (lZ (((nm.natAbs : Nat) : Int)))), (0, .ref (mo)), (1, .int (iZ (((f : Nat) : Int)))), (2, .int (iZ (nm))), (3, .int (iZ (d9)))]) hx hb dX11_setOne_26 hl (by decide) rfl (fun ls hl => ?_)
      refine lv_lload hx hb dX11_setOne_28 (lv_at hl 1 rfl) ?_
      refine lv_lstore (lv' := [(8, .long (lZ (((nm.natAbs : Nat) : Int)))), (6, .long (lZ (((d9.natAbs : Nat) : Int)))), (4, .long (lZ (((nm.natAbs : Nat) : Int)))), (0, .ref (mo)), (1, .int (iZ (((f : Nat) : Int)))), (2, .int (iZ (nm))), (3, .int (iZ (d9)))]) hx hb dX11_setOne_30 hl (by decide) rfl (fun ls hl => ?_)
      refine lv_lload hx hb dX11_setOne_32 (lv_at hl 1 rfl) ?_
      refine lv_lstore (lv' := [(10, .long (lZ (((d9.natAbs : Nat) : Int)))), (8, .long (lZ (((nm.natAbs : Nat) : Int)))), (6, .long (lZ (((d9.natAbs : Nat) : Int)))), (4, .long (lZ (((nm.natAbs : Nat) : Int)))), (0, .ref (mo)), (1, .int (iZ (((f : Nat) : Int)))), (2, .int (iZ (nm))), (3, .int (iZ (d9)))]) hx hb dX11_setOne_34 hl (by decide) rfl (fun ls hl => ?_)
      exact lp d9.natAbs nm.natAbs d9.natAbs s.heap [] ls (Nat.le_refl _) (by omega) (by omega) rfl hP hD hS (lv_sub hl [0, 1, 2, 3, 4, 5, 6, 7] rfl)
    · refine lv_iload_n hx hb dX11_setOne_18 rfl (lv_at hl 4 rfl) ?_
      refine zr_i2l hx hb hd9 dX11_setOne_19 ?_
      refine zr_lneg hx hb dX11_setOne_20 ?_
      refine zr_eql ((d9.natAbs : Nat) : Int) (by omega) ?_
      refine lv_goto (tgt := 26) hx hb dX11_setOne_21 (by decide) ?_
      refine lv_lstore (lv' := [(6, .long (lZ (((d9.natAbs : Nat) : Int)))), (4, .long (lZ (((nm.natAbs : Nat) : Int)))), (0, .ref (mo)), (1, .int (iZ (((f : Nat) : Int)))), (2, .int (iZ (nm))), (3, .int (iZ (d9)))]) hx hb dX11_setOne_26 hl (by decide) rfl (fun ls hl => ?_)
      refine lv_lload hx hb dX11_setOne_28 (lv_at hl 1 rfl) ?_
      refine lv_lstore (lv' := [(8, .long (lZ (((nm.natAbs : Nat) : Int)))), (6, .long (lZ (((d9.natAbs : Nat) : Int)))), (4, .long (lZ (((nm.natAbs : Nat) : Int)))), (0, .ref (mo)), (1, .int (iZ (((f : Nat) : Int)))), (2, .int (iZ (nm))), (3, .int (iZ (d9)))]) hx hb dX11_setOne_30 hl (by decide) rfl (fun ls hl => ?_)
      refine lv_lload hx hb dX11_setOne_32 (lv_at hl 1 rfl) ?_
      refine lv_lstore (lv' := [(10, .long (lZ (((d9.natAbs : Nat) : Int)))), (8, .long (lZ (((nm.natAbs : Nat) : Int)))), (6, .long (lZ (((d9.natAbs : Nat) : Int)))), (4, .long (lZ (((nm.natAbs : Nat) : Int)))), (0, .ref (mo)), (1, .int (iZ (((f : Nat) : Int)))), (2, .int (iZ (nm))), (3, .int (iZ (d9)))]) hx hb dX11_setOne_34 hl (by decide) rfl (fun ls hl => ?_)
      exact lp d9.natAbs nm.natAbs d9.natAbs s.heap [] ls (Nat.le_refl _) (by omega) (by omega) rfl hP hD hS (lv_sub hl [0, 1, 2, 3, 4, 5, 6, 7] rfl)
  · refine lv_iload_n hx hb dX11_setOne_4 rfl (lv_at hl 2 rfl) ?_
    refine zr_i2l hx hb hnm9 dX11_setOne_5 ?_
    refine zr_lneg hx hb dX11_setOne_6 ?_
    refine zr_eql ((nm.natAbs : Nat) : Int) (by omega) ?_
    refine lv_goto (tgt := 12) hx hb dX11_setOne_7 (by decide) ?_
    refine lv_lstore (lv' := [(4, .long (lZ (((nm.natAbs : Nat) : Int)))), (0, .ref (mo)), (1, .int (iZ (((f : Nat) : Int)))), (2, .int (iZ (nm))), (3, .int (iZ (d9)))]) hx hb dX11_setOne_12 hl (by decide) rfl (fun ls hl => ?_)
    refine lv_iload_n hx hb dX11_setOne_14 rfl (lv_at hl 4 rfl) ?_
    refine zr_if_ge hx hb 24 hd9 dX11_setOne_15 (by decide) (fun h_15 => ?_) (fun h_15 => ?_)
    · refine lv_iload_n hx hb dX11_setOne_24 rfl (lv_at hl 4 rfl) ?_
      refine zr_i2l hx hb hd9 dX11_setOne_25 ?_
      refine zr_eql ((d9.natAbs : Nat) : Int) (by omega) ?_
      refine lv_lstore (lv' := [(6, .long (lZ (((d9.natAbs : Nat) : Int)))), (4, .long (lZ (((nm.natAbs : Nat) : Int)))), (0, .ref (mo)), (1, .int (iZ (((f : Nat) : Int)))), (2, .int (iZ (nm))), (3, .int (iZ (d9)))]) hx hb dX11_setOne_26 hl (by decide) rfl (fun ls hl => ?_)
      refine lv_lload hx hb dX11_setOne_28 (lv_at hl 1 rfl) ?_
      refine lv_lstore (lv' := [(8, .long (lZ (((nm.natAbs : Nat) : Int)))), (6, .long (lZ (((d9.natAbs : Nat) : Int)))), (4, .long (lZ (((nm.natAbs : Nat) : Int)))), (0, .ref (mo)), (1, .int (iZ (((f : Nat) : Int)))), (2, .int (iZ (nm))), (3, .int (iZ (d9)))]) hx hb dX11_setOne_30 hl (by decide) rfl (fun ls hl => ?_)
      refine lv_lload hx hb dX11_setOne_32 (lv_at hl 1 rfl) ?_
      refine lv_lstore (lv' := [(10, .long (lZ (((d9.natAbs : Nat) : Int)))), (8, .long (lZ (((nm.natAbs : Nat) : Int)))), (6, .long (lZ (((d9.natAbs : Nat) : Int)))), (4, .long (lZ (((nm.natAbs : Nat) : Int)))), (0, .ref (mo)), (1, .int (iZ (((f : Nat) : Int)))), (2, .int (iZ (nm))), (3, .int (iZ (d9)))]) hx hb dX11_setOne_34 hl (by decide) rfl (fun ls hl => ?_)
      exact lp d9.natAbs nm.natAbs d9.natAbs s.heap [] ls (Nat.le_refl _) (by omega) (by omega) rfl hP hD hS (lv_sub hl [0, 1, 2, 3, 4, 5, 6, 7] rfl)
    · refine lv_iload_n hx hb dX11_setOne_18 rfl (lv_at hl 4 rfl) ?_
      refine zr_i2l hx hb hd9 dX11_setOne_19 ?_
      refine zr_lneg hx hb dX11_setOne_20 ?_
      refine zr_eql ((d9.natAbs : Nat) : Int) (by omega) ?_
      refine lv_goto (tgt := 26) hx hb dX11_setOne_21 (by decide) ?_
      refine lv_lstore (lv' := [(6, .long (lZ (((d9.natAbs : Nat) : Int)))), (4, .long (lZ (((nm.natAbs : Nat) : Int)))), (0, .ref (mo)), (1, .int (iZ (((f : Nat) : Int)))), (2, .int (iZ (nm))), (3, .int (iZ (d9)))]) hx hb dX11_setOne_26 hl (by decide) rfl (fun ls hl => ?_)
      refine lv_lload hx hb dX11_setOne_28 (lv_at hl 1 rfl) ?_
      refine lv_lstore (lv' := [(8, .long (lZ (((nm.natAbs : Nat) : Int)))), (6, .long (lZ (((d9.natAbs : Nat) : Int)))), (4, .long (lZ (((nm.natAbs : Nat) : Int)))), (0, .ref (mo)), (1, .int (iZ (((f : Nat) : Int)))), (2, .int (iZ (nm))), (3, .int (iZ (d9)))]) hx hb dX11_setOne_30 hl (by decide) rfl (fun ls hl => ?_)
      refine lv_lload hx hb dX11_setOne_32 (lv_at hl 1 rfl) ?_
      refine lv_lstore (lv' := [(10, .long (lZ (((d9.natAbs : Nat) : Int)))), (8, .long (lZ (((nm.natAbs : Nat) : Int)))), (6, .long (lZ (((d9.natAbs : Nat) : Int)))), (4, .long (lZ (((nm.natAbs : Nat) : Int)))), (0, .ref (mo)), (1, .int (iZ (((f : Nat) : Int)))), (2, .int (iZ (nm))), (3, .int (iZ (d9)))]) hx hb dX11_setOne_34 hl (by decide) rfl (fun ls hl => ?_)
      exact lp d9.natAbs nm.natAbs d9.natAbs s.heap [] ls (Nat.le_refl _) (by omega) (by omega) rfl hP hD hS (lv_sub hl [0, 1, 2, 3, 4, 5, 6, 7] rfl)
