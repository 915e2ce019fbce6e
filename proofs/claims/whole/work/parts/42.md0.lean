/-! THE REFERENCE: numbers in the places of one array, figures to the base 65536 -/
abbrev mo_ (fg le sg tp bl pr rs : Nat) (n dn sv rk tn ms th : Int) : va_E := .inr (11, [.ref fg, .ref le, .ref sg, .ref tp, .ref bl, .int (iZ n), .int (iZ dn), .int (iZ sv), .int (iZ rk), .int (iZ tn), .int (iZ ms), .ref pr, .int (iZ th), .ref rs])
def mdA (s : Nat) : Nat := if s < 170 then 180 * s else 30600 + 1200 * (s - 170)
def mdC (s : Nat) : Nat := if s < 170 then 180 else 1200
theorem mdA_b {s : Nat} (h : s < 188) : mdA s + mdC s ≤ 52200 := by unfold mdA mdC; split <;> omega
theorem mdC_b (s : Nat) : 180 ≤ mdC s ∧ mdC s ≤ 1200 := by unfold mdC; split <;> omega
theorem mdA_ne {s t : Nat} (h : s ≠ t) : mdA s + mdC s ≤ mdA t ∨ mdA t + mdC t ≤ mdA s := by unfold mdA mdC; split <;> split <;> omega
/-- the figures of place s, n of them, are the number v -/
def md_ok (F : Nat → Int) (s n : Nat) (v : Int) : Prop := hx_ok (fun i => F (mdA s + i)) n (mdC s) v
/-- nothing but place r has changed -/
def md_off (F F' : Nat → Int) (r : Nat) : Prop := ∀ j : Nat, j < mdA r ∨ mdA r + mdC r ≤ j → F' j = F j
theorem md_keep {F F' : Nat → Int} {r s n : Nat} {v : Int} (hs : s ≠ r) (h : md_off F F' r) (hk : md_ok F s n v) : md_ok F' s n v := by
  obtain ⟨h1, h2, h3, h4⟩ := hk
  have e : ∀ i : Nat, i < mdC s → F' (mdA s + i) = F (mdA s + i) := fun i hi => h _ (by rcases mdA_ne hs with q | q <;> omega)
  refine ⟨h1, fun i hi => by dsimp only; rw [e i (by omega)]; exact h2 i hi, fun h0 => by dsimp only; rw [e (n - 1) (by omega)]; exact h3 h0, ?_⟩
  rw [← h4]
  exact hx_val_congr (fun i hi => e i (by omega))
/-- place s is as it was -/
def md_e (F Ln F' Ln' : Nat → Int) (s : Nat) : Prop := Ln' s = Ln s ∧ ∀ i : Nat, i < mdC s → F' (mdA s + i) = F (mdA s + i)
theorem md_e.refl (F Ln : Nat → Int) (s : Nat) : md_e F Ln F Ln s := ⟨rfl, fun _ _ => rfl⟩
theorem md_e.trans {F Ln F' Ln' F2 L2 : Nat → Int} {s : Nat} (h : md_e F Ln F' Ln' s) (k : md_e F' Ln' F2 L2 s) : md_e F Ln F2 L2 s := ⟨k.1.trans h.1, fun i hi => (k.2 i hi).trans (h.2 i hi)⟩
/-- place s holds the number v -/
def md_n (F Ln : Nat → Int) (s : Nat) (v : Int) : Prop := ∃ k : Nat, Ln s = (k : Int) ∧ md_ok F s k v
theorem md_e.ok {F Ln F' Ln' : Nat → Int} {s k : Nat} {v : Int} (h : md_e F Ln F' Ln' s) (hk : md_ok F s k v) : md_ok F' s k v := by
  obtain ⟨h1, h2, h3, h4⟩ := hk
  have e := h.2
  refine ⟨h1, fun i hi => by dsimp only; rw [e i (by omega)]; exact h2 i hi, fun h0 => by dsimp only; rw [e (k - 1) (by omega)]; exact h3 h0, ?_⟩
  rw [← h4]
  exact hx_val_congr (fun i hi => e i (by omega))
theorem md_e.n {F Ln F' Ln' : Nat → Int} {s : Nat} {v : Int} (h : md_e F Ln F' Ln' s) (hn : md_n F Ln s v) : md_n F' Ln' s v := by
  obtain ⟨k, h1, h2⟩ := hn
  exact ⟨k, h.1.trans h1, h.ok h2⟩
theorem md_off.e {F F' Ln : Nat → Int} {r s : Nat} {x : Int} (h : md_off F F' r) (hs : s ≠ r) : md_e F Ln F' (zu Ln r x) s := ⟨zu_n Ln x hs, fun i hi => h _ (by rcases mdA_ne hs with q | q <;> omega)⟩
theorem md_n.nn {F Ln : Nat → Int} {s : Nat} {v : Int} (h : md_n F Ln s v) : 0 ≤ v := by
  obtain ⟨k, _, h2⟩ := h
  exact hx_ok_nn h2
/-- a number of place s, which place r (all else kept) now holds -/
def md_w (F Ln F' Ln' : Nat → Int) (r : Nat) (v : Int) : Prop := (∀ s : Nat, s < 188 → s ≠ r → md_e F Ln F' Ln' s) ∧ md_n F' Ln' r v
theorem md_off_refl (F : Nat → Int) (r : Nat) : md_off F F r := fun _ _ => rfl
theorem md_off_zu {F F' : Nat → Int} {r i : Nat} {x : Int} (h : md_off F F' r) (hi : i < mdC r) : md_off F (zu F' (mdA r + i) x) r := fun j hj => by
  rw [zu_n F' x (by omega)]; exact h j hj
theorem hx_zu_shift (g : Nat → Int) (a i : Nat) (x : Int) : (fun j => zu g (a + i) x (a + j)) = zu (fun j => g (a + j)) i x := by
  funext j
  unfold zu
  by_cases q : j = i
  · rw [if_pos q, if_pos (by omega)]
  · rw [if_neg q, if_neg (by omega)]
set_option maxHeartbeats 4000000 in
set_option maxRecDepth 100000 in
/-- Model.at -/
theorem c_at (l : Launch) (D : va_G) (cI cJ cE cF cR : ClassId) (s9 : Nat) (hs9 : s9 < 188) : Ci l D (zty cI cJ cE cF cR) yX11_at wsX11_at (zRm 0 0) 0 0 [.int (iZ (((s9 : Nat) : Int)))] [] (fun r w1 => w1 = [] ∧ r = ((mdA s9 : Nat) : Int)) := by
  unfold Ci
  refine zs (Qc := zQi D _ _) (cc := cX11_at) (maxL := 1) (ret := (some .int)) (by decide) rfl (Nat.le_of_ble_eq_true rfl) ?_
  intro zp ze s zm below meth zc ls A args Q hQ hx hb hr hts hown hlk hml hnm hN hA hK hP hD hS hl
  have hl : lv_has ls 1 [(0, .int (iZ (((s9 : Nat) : Int))))] := hl
  refine lv_iload_n hx hb dX11_at_0 rfl (lv_at hl 0 rfl) ?_
  refine lv_sipush (v := iZ 170) hx hb dX11_at_1 (by decide) ?_
  refine zr_icmp_ge hx hb 15 ⟨by omega, by omega⟩ ⟨by omega, by omega⟩ dX11_at_4 (by decide) (fun h_4 => ?_) (fun h_4 => ?_)
  · refine lv_sipush (v := iZ 30600) hx hb dX11_at_15 (by decide) ?_
    refine lv_sipush (v := iZ 1200) hx hb dX11_at_18 (by decide) ?_
    refine lv_iload_n hx hb dX11_at_21 rfl (lv_at hl 0 rfl) ?_
    refine lv_sipush (v := iZ 170) hx hb dX11_at_22 (by decide) ?_
    refine zr_isub hx hb dX11_at_25 ?_
    refine zr_imul hx hb dX11_at_26 ?_
    refine zr_iadd hx hb dX11_at_27 ?_
    exact zr_iret hQ hx hb hr hlk dX11_at_28 hK hP hD hS (by omega) (by omega) ⟨by omega, by omega⟩ (⟨rfl, by unfold mdA; rw [if_neg (by omega)]; omega⟩)
  · refine lv_sipush (v := iZ 180) hx hb dX11_at_7 (by decide) ?_
    refine lv_iload_n hx hb dX11_at_10 rfl (lv_at hl 0 rfl) ?_
    refine zr_imul hx hb dX11_at_11 ?_
    refine lv_goto (tgt := 28) hx hb dX11_at_12 (by decide) ?_
    exact zr_iret hQ hx hb hr hlk dX11_at_28 hK hP hD hS (by omega) (by omega) ⟨by omega, by omega⟩ (⟨rfl, by unfold mdA; rw [if_pos (by omega)]; omega⟩)

set_option maxHeartbeats 4000000 in
set_option maxRecDepth 100000 in
/-- Model.trim -/
theorem c_mtrim (l : Launch) (D : va_G) (cI cJ cE cF cR : ClassId) (mo fg le sg tp bl pr rs : Nat) (n dn sv rk tn ms th : Int) (s9 k : Nat) (F Ln : Nat → Int) (hs9 : s9 < 188) (hk : k ≤ mdC s9) (hd : hx_dg (fun i => F (mdA s9 + i)) k) : Cv l D (zty cI cJ cE cF cR) yX11_trim wsX11_trim (zRm 1 20) 0 0 [.ref (mo), .int (iZ (((s9 : Nat) : Int))), .int (iZ (((k : Nat) : Int)))] [(mo, mo_ fg le sg tp bl pr rs (n) (dn) (sv) (rk) (tn) (ms) (th)), (fg, aI cI (52200) (F)), (le, aI cI (190) (Ln))] (fun w1 => w1 = [(mo, mo_ fg le sg tp bl pr rs (n) (dn) (sv) (rk) (tn) (ms) (th)), (fg, aI cI (52200) (F)), (le, aI cI (190) (zu Ln s9 ((hx_trim (fun i => F (mdA s9 + i)) k : Nat) : Int)))]) := by
  unfold Cv
  refine zs (Qc := zQv D _ _) (cc := cX11_trim) (maxL := 4) (ret := none) (by decide) rfl (Nat.le_of_ble_eq_true rfl) ?_
  intro zp ze s zm below meth zc ls A args Q hQ hx hb hr hts hown hlk hml hnm hN hA hK hP hD hS hl
  have q_f_RX11_14_LimbSolverModel_length_I := hts (.fieldLink RX11 14 "LimbSolverModel" "length" "[I") (by decide +kernel)
  have hin11 : ∀ w ∈ wsX110, w ∈ wsX11_trim := by decide +kernel
  have q_f_RX11_8_LimbSolverModel_figure_I := hts (.fieldLink RX11 8 "LimbSolverModel" "figure" "[I") (by decide +kernel)
  have hl : lv_has ls 4 [(0, .ref (mo)), (1, .int (iZ (((s9 : Nat) : Int)))), (2, .int (iZ (((k : Nat) : Int))))] := hl
  have hb9 := mdA_b hs9
  have lp : ∀ (j : Nat) (H : Heap) (locs : List Loc) (ls : Array Slot), j ≤ k → hx_trim (fun i => F (mdA s9 + i)) j = hx_trim (fun i => F (mdA s9 + i)) k → va_P D vwCl [(mo, mo_ fg le sg tp bl pr rs (n) (dn) (sv) (rk) (tn) (ms) (th)), (fg, aI cI (52200) (F)), (le, aI cI (190) (Ln))] H → va_D A [(mo, mo_ fg le sg tp bl pr rs (n) (dn) (sv) (rk) (tn) (ms) (th)), (fg, aI cI (52200) (F)), (le, aI cI (190) (Ln))] → va_S A s.heap H locs → lv_has ls 4 [(3, .int (iZ (((j : Nat) : Int)))), (0, .ref (mo)), (1, .int (iZ (((s9 : Nat) : Int)))), (2, .int (iZ (((k : Nat) : Int))))] → W zp l ze (zRm 1 20) s zm args below meth zc H locs 0 0 Q (F0 zm 2 ls []) := by
    intro j
    induction j with
    | zero =>
      intro H locs ls hjk htr hP hD hS hl
      refine lv_iload_n hx hb dX11_trim_2 rfl (lv_at hl 0 rfl) ?_
      refine zr_if_le hx hb 28 ⟨by omega, by omega⟩ dX11_trim_3 (by decide) (fun h_3 => ?_) (fun h_3 => ?_)
      · refine lv_aload_n hx hb dX11_trim_28 rfl (lv_at hl 1 rfl) ?_
        refine va_get (D := D) (ci := 11) (v := .ref (le)) (C := RX11) (T := TX11) (N := 14) hx hb hts hin11 hown hK hP 0 rfl rfl 1 (by decide) q_f_RX11_14_LimbSolverModel_length_I (fun _ h9 => h9) rfl dX11_trim_29 ?_
        refine lv_iload_n hx hb dX11_trim_32 rfl (lv_at hl 2 rfl) ?_
        refine lv_iload_n hx hb dX11_trim_33 rfl (lv_at hl 0 rfl) ?_
        refine zr_iast hx hb hK hP hD hS 2 0 rfl rfl (s9) (by omega) (by omega) (by omega) dX11_trim_34 (fun H locs hP hD hS => ?_)
        have hP : va_P D vwCl [(mo, mo_ fg le sg tp bl pr rs (n) (dn) (sv) (rk) (tn) (ms) (th)), (fg, aI cI (52200) (F)), (le, aI cI (190) (zu (Ln) (s9) (((0 : Nat) : Int))))] H := hP
        have hD : va_D A [(mo, mo_ fg le sg tp bl pr rs (n) (dn) (sv) (rk) (tn) (ms) (th)), (fg, aI cI (52200) (F)), (le, aI cI (190) (zu (Ln) (s9) (((0 : Nat) : Int))))] := hD
        exact zr_vret hQ hx hb hr hlk dX11_trim_35 hK hP hD hS (by omega) (by omega) (by rw [← htr]; rfl)
      · exfalso; omega
    | succ j ih =>
      intro H locs ls hjk htr hP hD hS hl
      refine lv_iload_n hx hb dX11_trim_2 rfl (lv_at hl 0 rfl) ?_
      refine zr_if_le hx hb 28 ⟨by omega, by omega⟩ dX11_trim_3 (by decide) (fun h_3 => ?_) (fun h_3 => ?_)
      · exfalso; omega
      · refine lv_aload_n hx hb dX11_trim_6 rfl (lv_at hl 1 rfl) ?_
        refine va_get (D := D) (ci := 11) (v := .ref (fg)) (C := RX11) (T := TX11) (N := 14) hx hb hts hin11 hown hK hP 0 rfl rfl 0 (by decide) q_f_RX11_8_LimbSolverModel_figure_I (fun _ h9 => h9) rfl dX11_trim_7 ?_
        refine lv_iload_n hx hb dX11_trim_10 rfl (lv_at hl 2 rfl) ?_
        refine zc_Si (As := [.int (iZ (((s9 : Nat) : Int)))]) (rest := [.ref (fg)]) (wr := [(mo, mo_ fg le sg tp bl pr rs (n) (dn) (sv) (rk) (tn) (ms) (th)), (fg, aI cI (52200) (F)), (le, aI cI (190) (Ln))]) ⟨hx, hb, hml, hown, hts⟩ (c_at l D cI cJ cE cF cR s9 (by omega)) (va_cwS 1 hts gX11_trim_X11_at rfl rfl rfl (by decide +kernel) ⟨Nat.le_of_ble_eq_true rfl, Nat.le_of_ble_eq_true rfl⟩) hN hK hP hD hS hA [] [0, 1, 2] rfl rfl (by decide) (by decide) (by decide) rfl hl.1 (Nat.le_of_ble_eq_true rfl) dX11_trim_11 ⟨by decide, by decide⟩ (fun z11 w1 H locs hz11 hp hP hD hS => ?_)
        obtain ⟨hw9, hx0⟩ := hp
        subst hw9
        subst hx0
        have hP := hP.sub (ws' := [(mo, mo_ fg le sg tp bl pr rs (n) (dn) (sv) (rk) (tn) (ms) (th)), (fg, aI cI (52200) (F)), (le, aI cI (190) (Ln))]) [0, 1, 2] rfl
        have hD := hD.sub (ws' := [(mo, mo_ fg le sg tp bl pr rs (n) (dn) (sv) (rk) (tn) (ms) (th)), (fg, aI cI (52200) (F)), (le, aI cI (190) (Ln))]) [0, 1, 2] (by decide) rfl
        refine lv_iload_n hx hb dX11_trim_14 rfl (lv_at hl 0 rfl) ?_
        refine zr_iadd hx hb dX11_trim_15 ?_
        refine lv_iconst (v := iZ 1) hx hb dX11_trim_16 rfl ?_
        refine zr_isub hx hb dX11_trim_17 ?_
        refine zr_iald hx hb hK hP 1 0 rfl rfl (mdA s9 + j) (by omega) (by omega) (by omega) dX11_trim_18 ?_
        have hdj : 0 ≤ F (mdA s9 + j) ∧ F (mdA s9 + j) < 65536 := hd j (by omega)
        refine zr_if_ne hx hb 28 ⟨by omega, by omega⟩ dX11_trim_19 (by decide) (fun h_19 => ?_) (fun h_19 => ?_)
        · refine lv_aload_n hx hb dX11_trim_28 rfl (lv_at hl 1 rfl) ?_
          refine va_get (D := D) (ci := 11) (v := .ref (le)) (C := RX11) (T := TX11) (N := 14) hx hb hts hin11 hown hK hP 0 rfl rfl 1 (by decide) q_f_RX11_14_LimbSolverModel_length_I (fun _ h9 => h9) rfl dX11_trim_29 ?_
          refine lv_iload_n hx hb dX11_trim_32 rfl (lv_at hl 2 rfl) ?_
          refine lv_iload_n hx hb dX11_trim_33 rfl (lv_at hl 0 rfl) ?_
          refine zr_iast hx hb hK hP hD hS 2 0 rfl rfl (s9) (by omega) (by omega) (by omega) dX11_trim_34 (fun H locs hP hD hS => ?_)
          have hP : va_P D vwCl [(mo, mo_ fg le sg tp bl pr rs (n) (dn) (sv) (rk) (tn) (ms) (th)), (fg, aI cI (52200) (F)), (le, aI cI (190) (zu (Ln) (s9) (((j + 1 : Nat) : Int))))] H := hP
          have hD : va_D A [(mo, mo_ fg le sg tp bl pr rs (n) (dn) (sv) (rk) (tn) (ms) (th)), (fg, aI cI (52200) (F)), (le, aI cI (190) (zu (Ln) (s9) (((j + 1 : Nat) : Int))))] := hD
          exact zr_vret hQ hx hb hr hlk dX11_trim_35 hK hP hD hS (by omega) (by omega) (by rw [← htr, hx_trim_s1 (d := fun i => F (mdA s9 + i)) (n := j) h_19])
        · refine lv_iinc (v := iZ (((j : Nat) : Int))) (lv' := [(3, .int (iZ (((j : Nat) : Int)))), (0, .ref (mo)), (1, .int (iZ (((s9 : Nat) : Int)))), (2, .int (iZ (((k : Nat) : Int))))]) hx hb dX11_trim_22 hl (k := 0) rfl (by rw [show ((j : Nat) : Int) = ((j + 1 : Nat) : Int) + (-1) by omega]; exact iZ_add _ _) (by decide) rfl (fun ls hl => ?_)
          refine lv_goto (tgt := 2) hx hb dX11_trim_25 (by decide) ?_
          exact ih H locs ls (by omega) (by rw [← htr, hx_trim_s0 (d := fun i => F (mdA s9 + i)) (n := j) h_19]) hP hD hS (lv_sub hl [0, 1, 2, 3] rfl)
  refine lv_iload_n hx hb dX11_trim_0 rfl (lv_at hl 2 rfl) ?_
  refine lv_istore_n (lv' := [(3, .int (iZ (((k : Nat) : Int)))), (0, .ref (mo)), (1, .int (iZ (((s9 : Nat) : Int)))), (2, .int (iZ (((k : Nat) : Int))))]) hx hb dX11_trim_1 rfl hl (by decide) rfl (fun ls hl => ?_)
  exact lp k s.heap [] ls (Nat.le_refl k) rfl hP hD hS (lv_sub hl [0, 1, 2, 3] rfl)

set_option maxHeartbeats 4000000 in
set_option maxRecDepth 100000 in
/-- Model.figureOf -/
theorem c_figureOf (l : Launch) (D : va_G) (cI cJ cE cF cR : ClassId) (mo fg le sg tp bl pr rs : Nat) (n dn sv rk tn ms th : Int) (s9 k m : Nat) (F Ln : Nat → Int) (v : Int) (hs9 : s9 < 188) (hk : k < 2147483648) (hLn : Ln s9 = (m : Int)) (hv : md_ok F s9 m v) : Ci l D (zty cI cJ cE cF cR) yX11_figureOf wsX11_figureOf (zRm 1 20) 0 0 [.ref (mo), .int (iZ (((s9 : Nat) : Int))), .int (iZ (((k : Nat) : Int)))] [(mo, mo_ fg le sg tp bl pr rs (n) (dn) (sv) (rk) (tn) (ms) (th)), (fg, aI cI (52200) (F)), (le, aI cI (190) (Ln))] (fun r w1 => w1 = [(mo, mo_ fg le sg tp bl pr rs (n) (dn) (sv) (rk) (tn) (ms) (th)), (fg, aI cI (52200) (F)), (le, aI cI (190) (Ln))] ∧ r = hx_x (fun i => F (mdA s9 + i)) m k) := by
  unfold Ci
  refine zs (Qc := zQi D _ _) (cc := cX11_figureOf) (maxL := 3) (ret := (some .int)) (by decide) rfl (Nat.le_of_ble_eq_true rfl) ?_
  intro zp ze s zm below meth zc ls A args Q hQ hx hb hr hts hown hlk hml hnm hN hA hK hP hD hS hl
  have q_f_RX11_14_LimbSolverModel_length_I := hts (.fieldLink RX11 14 "LimbSolverModel" "length" "[I") (by decide +kernel)
  have hin11 : ∀ w ∈ wsX110, w ∈ wsX11_figureOf := by decide +kernel
  have q_f_RX11_8_LimbSolverModel_figure_I := hts (.fieldLink RX11 8 "LimbSolverModel" "figure" "[I") (by decide +kernel)
  have hl : lv_has ls 3 [(0, .ref (mo)), (1, .int (iZ (((s9 : Nat) : Int)))), (2, .int (iZ (((k : Nat) : Int))))] := hl
  have hb9 := mdA_b hs9
  have hc9 := mdC_b s9
  have hm9 := hv.1
  have hvk : k < m → 0 ≤ F (mdA s9 + k) ∧ F (mdA s9 + k) < 65536 := fun q => hv.2.1 k q
  refine lv_iload_n hx hb dX11_figureOf_0 rfl (lv_at hl 2 rfl) ?_
  refine lv_aload_n hx hb dX11_figureOf_1 rfl (lv_at hl 0 rfl) ?_
  refine va_get (D := D) (ci := 11) (v := .ref (le)) (C := RX11) (T := TX11) (N := 14) hx hb hts hin11 hown hK hP 0 rfl rfl 1 (by decide) q_f_RX11_14_LimbSolverModel_length_I (fun _ h9 => h9) rfl dX11_figureOf_2 ?_
  refine lv_iload_n hx hb dX11_figureOf_5 rfl (lv_at hl 1 rfl) ?_
  refine zr_iald hx hb hK hP 2 0 rfl rfl (s9) (by omega) (by omega) (by omega) dX11_figureOf_6 ?_
  refine zr_eqi ((m : Nat) : Int) hLn ?_
  refine zr_icmp_ge hx hb 24 ⟨by omega, by omega⟩ ⟨by omega, by omega⟩ dX11_figureOf_7 (by decide) (fun h_7 => ?_) (fun h_7 => ?_)
  · refine lv_iconst (v := iZ 0) hx hb dX11_figureOf_24 rfl ?_
    exact zr_iret hQ hx hb hr hlk dX11_figureOf_25 hK hP hD hS (by omega) (by omega) (by first | (exact ⟨by have := (hvk (by omega)).1; omega, by have := (hvk (by omega)).2; omega⟩) | decide) (⟨rfl, by unfold hx_x; rw [if_neg (by omega)]⟩)
  · refine lv_aload_n hx hb dX11_figureOf_10 rfl (lv_at hl 0 rfl) ?_
    refine va_get (D := D) (ci := 11) (v := .ref (fg)) (C := RX11) (T := TX11) (N := 14) hx hb hts hin11 hown hK hP 0 rfl rfl 0 (by decide) q_f_RX11_8_LimbSolverModel_figure_I (fun _ h9 => h9) rfl dX11_figureOf_11 ?_
    refine lv_iload_n hx hb dX11_figureOf_14 rfl (lv_at hl 1 rfl) ?_
    refine zc_Si (As := [.int (iZ (((s9 : Nat) : Int)))]) (rest := [.ref (fg)]) (wr := [(mo, mo_ fg le sg tp bl pr rs (n) (dn) (sv) (rk) (tn) (ms) (th)), (fg, aI cI (52200) (F)), (le, aI cI (190) (Ln))]) ⟨hx, hb, hml, hown, hts⟩ (c_at l D cI cJ cE cF cR s9 (by omega)) (va_cwS 1 hts gX11_figureOf_X11_at rfl rfl rfl (by decide +kernel) ⟨Nat.le_of_ble_eq_true rfl, Nat.le_of_ble_eq_true rfl⟩) hN hK hP hD hS hA [] [0, 1, 2] rfl rfl (by decide) (by decide) (by decide) rfl hl.1 (Nat.le_of_ble_eq_true rfl) dX11_figureOf_15 ⟨by decide, by decide⟩ (fun z15 w1 H locs hz15 hp hP hD hS => ?_)
    obtain ⟨hw9, hx0⟩ := hp
    subst hw9
    subst hx0
    have hP := hP.sub (ws' := [(mo, mo_ fg le sg tp bl pr rs (n) (dn) (sv) (rk) (tn) (ms) (th)), (fg, aI cI (52200) (F)), (le, aI cI (190) (Ln))]) [0, 1, 2] rfl
    have hD := hD.sub (ws' := [(mo, mo_ fg le sg tp bl pr rs (n) (dn) (sv) (rk) (tn) (ms) (th)), (fg, aI cI (52200) (F)), (le, aI cI (190) (Ln))]) [0, 1, 2] (by decide) rfl
    refine lv_iload_n hx hb dX11_figureOf_18 rfl (lv_at hl 2 rfl) ?_
    refine zr_iadd hx hb dX11_figureOf_19 ?_
    refine zr_iald hx hb hK hP 1 0 rfl rfl (mdA s9 + k) (by omega) (by omega) (by omega) dX11_figureOf_20 ?_
    refine lv_goto (tgt := 25) hx hb dX11_figureOf_21 (by decide) ?_
    exact zr_iret hQ hx hb hr hlk dX11_figureOf_25 hK hP hD hS (by omega) (by omega) (by first | (exact ⟨by have := (hvk (by omega)).1; omega, by have := (hvk (by omega)).2; omega⟩) | decide) (⟨rfl, by unfold hx_x; rw [if_pos (by omega)]⟩)

set_option maxHeartbeats 4000000 in
set_option maxRecDepth 100000 in
/-- Model.take -/
theorem c_take (l : Launch) (D : va_G) (cI cJ cE cF cR : ClassId) (mo fg le sg tp bl pr rs : Nat) (n dn sv rk tn ms th : Int) (s9 k : Nat) (F Ln Tp : Nat → Int) (hs9 : s9 < 188) (hk : k ≤ mdC s9) (hd : hx_dg Tp k) : Cv l D (zty cI cJ cE cF cR) yX11_take wsX11_take (zRm 2 43) 0 0 [.ref (mo), .int (iZ (((s9 : Nat) : Int))), .int (iZ (((k : Nat) : Int)))] [(mo, mo_ fg le sg tp bl pr rs (n) (dn) (sv) (rk) (tn) (ms) (th)), (fg, aI cI (52200) (F)), (le, aI cI (190) (Ln)), (tp, aI cI (1300) (Tp))] (fun w1 => ∃ (G L1 : Nat → Int), w1 = [(mo, mo_ fg le sg tp bl pr rs (n) (dn) (sv) (rk) (tn) (ms) (th)), (fg, aI cI (52200) (G)), (le, aI cI (190) (L1)), (tp, aI cI (1300) (Tp))] ∧ md_w F Ln G L1 s9 (hx_val Tp k)) := by
  unfold Cv
  refine zs (Qc := zQv D _ _) (cc := cX11_take) (maxL := 4) (ret := none) (by decide) rfl (Nat.le_of_ble_eq_true rfl) ?_
  intro zp ze s zm below meth zc ls A args Q hQ hx hb hr hts hown hlk hml hnm hN hA hK hP hD hS hl
  have q_f_RX11_8_LimbSolverModel_figure_I := hts (.fieldLink RX11 8 "LimbSolverModel" "figure" "[I") (by decide +kernel)
  have hin11 : ∀ w ∈ wsX110, w ∈ wsX11_take := by decide +kernel
  have q_f_RX11_20_LimbSolverModel_top_I := hts (.fieldLink RX11 20 "LimbSolverModel" "top" "[I") (by decide +kernel)
  have hl : lv_has ls 4 [(0, .ref (mo)), (1, .int (iZ (((s9 : Nat) : Int)))), (2, .int (iZ (((k : Nat) : Int))))] := hl
  have hb9 := mdA_b hs9
  have hc9 := mdC_b s9
  have lp : ∀ (t : Nat) (i : Nat) (G : Nat → Int) (H : Heap) (locs : List Loc) (ls : Array Slot), (i + t = k) → (md_off F G s9) → (∀ j : Nat, j < i → G (mdA s9 + j) = Tp j) →  va_P D vwCl [(mo, mo_ fg le sg tp bl pr rs (n) (dn) (sv) (rk) (tn) (ms) (th)), (fg, aI cI (52200) (G)), (le, aI cI (190) (Ln)), (tp, aI cI (1300) (Tp))] H → va_D A [(mo, mo_ fg le sg tp bl pr rs (n) (dn) (sv) (rk) (tn) (ms) (th)), (fg, aI cI (52200) (G)), (le, aI cI (190) (Ln)), (tp, aI cI (1300) (Tp))] → va_S A s.heap H locs → lv_has ls 4 [(3, .int (iZ (((i : Nat) : Int)))), (0, .ref (mo)), (1, .int (iZ (((s9 : Nat) : Int)))), (2, .int (iZ (((k : Nat) : Int))))] → W zp l ze (zRm 2 43) s zm args below meth zc H locs 0 0 Q (F0 zm 2 ls []) := by
    intro t
    induction t with
    | zero =>
      intro i G H locs ls hit hoff hcp hP hD hS hl
      refine lv_iload_n hx hb dX11_take_2 rfl (lv_at hl 0 rfl) ?_
      refine lv_iload_n hx hb dX11_take_3 rfl (lv_at hl 3 rfl) ?_
      refine zr_icmp_ge hx hb 30 ⟨by omega, by omega⟩ ⟨by omega, by omega⟩ dX11_take_4 (by decide) (fun h_4 => ?_) (fun h_4 => ?_)
      · refine lv_aload_n hx hb dX11_take_30 rfl (lv_at hl 1 rfl) ?_
        refine lv_iload_n hx hb dX11_take_31 rfl (lv_at hl 2 rfl) ?_
        refine lv_iload_n hx hb dX11_take_32 rfl (lv_at hl 3 rfl) ?_
        refine zc_Vv (As := [.int (iZ (((s9 : Nat) : Int))), .int (iZ (((k : Nat) : Int)))]) (rest := []) (wr := [(tp, aI cI (1300) (Tp))]) ⟨hx, hb, hml, hown, hts⟩ (c_mtrim l D cI cJ cE cF cR mo fg le sg tp bl pr rs n dn sv rk tn ms th s9 k G Ln hs9 hk (fun j hj => by dsimp only; rw [hcp j (by omega)]; exact hd j hj)) (cwV 2 hts gX11_take_X11_trim rfl rfl rfl (by decide +kernel) ⟨Nat.le_of_ble_eq_true rfl, Nat.le_of_ble_eq_true rfl⟩) hN hK hP hD hS hA [0, 1, 2] [3] rfl rfl (by decide) (by decide) (by decide) (q0 := 0) (ci := 11) rfl rfl rfl rfl hl.1 (Nat.le_of_ble_eq_true rfl) dX11_take_33 ⟨by decide, by decide⟩ (fun w1 H locs hp hP hD hS => ?_)
        obtain rfl : w1 = _ := hp
        have hP := hP.sub (ws' := [(mo, mo_ fg le sg tp bl pr rs (n) (dn) (sv) (rk) (tn) (ms) (th)), (fg, aI cI (52200) (G)), (le, aI cI (190) (zu Ln s9 ((hx_trim (fun i => G (mdA s9 + i)) k : Nat) : Int))), (tp, aI cI (1300) (Tp))]) [1, 2, 3, 0] rfl
        have hD := hD.sub (ws' := [(mo, mo_ fg le sg tp bl pr rs (n) (dn) (sv) (rk) (tn) (ms) (th)), (fg, aI cI (52200) (G)), (le, aI cI (190) (zu Ln s9 ((hx_trim (fun i => G (mdA s9 + i)) k : Nat) : Int))), (tp, aI cI (1300) (Tp))]) [1, 2, 3, 0] (by decide) rfl
        exact zr_vret hQ hx hb hr hlk dX11_take_36 hK hP hD hS (by omega) (by omega) (⟨G, _, rfl, fun s _ hs => hoff.e hs, _, zu_s _ _ _, by have q := hx_ok_trim (g := fun i => G (mdA s9 + i)) hk (fun j hj => by dsimp only; rw [hcp j (by omega)]; exact hd j hj); rw [hx_val_congr (e := Tp) (fun j hj => hcp j (by omega))] at q; exact q⟩)
      · exfalso; omega
    | succ t ih =>
      intro i G H locs ls hit hoff hcp hP hD hS hl
      refine lv_iload_n hx hb dX11_take_2 rfl (lv_at hl 0 rfl) ?_
      refine lv_iload_n hx hb dX11_take_3 rfl (lv_at hl 3 rfl) ?_
      refine zr_icmp_ge hx hb 30 ⟨by omega, by omega⟩ ⟨by omega, by omega⟩ dX11_take_4 (by decide) (fun h_4 => ?_) (fun h_4 => ?_)
      · exfalso; omega
      · refine lv_aload_n hx hb dX11_take_7 rfl (lv_at hl 1 rfl) ?_
        refine va_get (D := D) (ci := 11) (v := .ref (fg)) (C := RX11) (T := TX11) (N := 14) hx hb hts hin11 hown hK hP 0 rfl rfl 0 (by decide) q_f_RX11_8_LimbSolverModel_figure_I (fun _ h9 => h9) rfl dX11_take_8 ?_
        refine lv_iload_n hx hb dX11_take_11 rfl (lv_at hl 2 rfl) ?_
        refine zc_Si (As := [.int (iZ (((s9 : Nat) : Int)))]) (rest := [.ref (fg)]) (wr := [(mo, mo_ fg le sg tp bl pr rs (n) (dn) (sv) (rk) (tn) (ms) (th)), (fg, aI cI (52200) (G)), (le, aI cI (190) (Ln)), (tp, aI cI (1300) (Tp))]) ⟨hx, hb, hml, hown, hts⟩ (c_at l D cI cJ cE cF cR s9 (by omega)) (va_cwS 1 hts gX11_take_X11_at rfl rfl rfl (by decide +kernel) ⟨Nat.le_of_ble_eq_true rfl, Nat.le_of_ble_eq_true rfl⟩) hN hK hP hD hS hA [] [0, 1, 2, 3] rfl rfl (by decide) (by decide) (by decide) rfl hl.1 (Nat.le_of_ble_eq_true rfl) dX11_take_12 ⟨by decide, by decide⟩ (fun z12 w1 H locs hz12 hp hP hD hS => ?_)
        obtain ⟨hw9, hx0⟩ := hp
        subst hw9
        subst hx0
        have hP := hP.sub (ws' := [(mo, mo_ fg le sg tp bl pr rs (n) (dn) (sv) (rk) (tn) (ms) (th)), (fg, aI cI (52200) (G)), (le, aI cI (190) (Ln)), (tp, aI cI (1300) (Tp))]) [0, 1, 2, 3] rfl
        have hD := hD.sub (ws' := [(mo, mo_ fg le sg tp bl pr rs (n) (dn) (sv) (rk) (tn) (ms) (th)), (fg, aI cI (52200) (G)), (le, aI cI (190) (Ln)), (tp, aI cI (1300) (Tp))]) [0, 1, 2, 3] (by decide) rfl
        refine lv_iload_n hx hb dX11_take_15 rfl (lv_at hl 0 rfl) ?_
        refine zr_iadd hx hb dX11_take_16 ?_
        refine lv_aload_n hx hb dX11_take_17 rfl (lv_at hl 1 rfl) ?_
        refine va_get (D := D) (ci := 11) (v := .ref (tp)) (C := RX11) (T := TX11) (N := 14) hx hb hts hin11 hown hK hP 0 rfl rfl 3 (by decide) q_f_RX11_20_LimbSolverModel_top_I (fun _ h9 => h9) rfl dX11_take_18 ?_
        refine lv_iload_n hx hb dX11_take_21 rfl (lv_at hl 0 rfl) ?_
        refine zr_iald hx hb hK hP 3 0 rfl rfl (i) (by omega) (by omega) (by omega) dX11_take_22 ?_
        refine zr_iast hx hb hK hP hD hS 1 0 rfl rfl (mdA s9 + i) (by omega) (by omega) (by omega) dX11_take_23 (fun H locs hP hD hS => ?_)
        have hP : va_P D vwCl [(mo, mo_ fg le sg tp bl pr rs (n) (dn) (sv) (rk) (tn) (ms) (th)), (fg, aI cI (52200) (zu (G) (mdA s9 + i) ((Tp) (i)))), (le, aI cI (190) (Ln)), (tp, aI cI (1300) (Tp))] H := hP
        have hD : va_D A [(mo, mo_ fg le sg tp bl pr rs (n) (dn) (sv) (rk) (tn) (ms) (th)), (fg, aI cI (52200) (zu (G) (mdA s9 + i) ((Tp) (i)))), (le, aI cI (190) (Ln)), (tp, aI cI (1300) (Tp))] := hD
        refine lv_iinc (v := iZ (((i + 1 : Nat) : Int))) (lv' := [(3, .int (iZ (((i + 1 : Nat) : Int)))), (0, .ref (mo)), (1, .int (iZ (((s9 : Nat) : Int)))), (2, .int (iZ (((k : Nat) : Int))))]) hx hb dX11_take_24 hl (k := 0) rfl (by rw [show ((i + 1 : Nat) : Int) = ((i : Nat) : Int) + 1 by omega]; exact iZ_add _ _) (by decide) rfl (fun ls hl => ?_)
        refine lv_goto (tgt := 2) hx hb dX11_take_27 (by decide) ?_
        exact ih (i + 1) _ H locs ls (by omega) (md_off_zu hoff (by omega)) (fun j hj => by by_cases q : j = i; (subst q; exact zu_s _ _ _); (rw [zu_n G _ (by omega)]; exact hcp j (by omega))) hP hD hS (lv_sub hl [0, 1, 2, 3] rfl)
  refine lv_iconst (v := iZ 0) hx hb dX11_take_0 rfl ?_
  refine lv_istore_n (lv' := [(3, .int (iZ (0))), (0, .ref (mo)), (1, .int (iZ (((s9 : Nat) : Int)))), (2, .int (iZ (((k : Nat) : Int))))]) hx hb dX11_take_1 rfl hl (by decide) rfl (fun ls hl => ?_)
  exact lp k 0 F s.heap [] ls (by omega) (md_off_refl F s9) (fun j hj => absurd hj (Nat.not_lt_zero j)) hP hD hS (lv_sub hl [0, 1, 2, 3] rfl)
