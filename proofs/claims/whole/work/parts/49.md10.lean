
/-- what the reference holds: told, done -/
def md_R (V : Nat → Rat) (nn : Nat) (dn sv rk ms : Int) (F Ln Sg PR : Nat → Int) : Prop := (1 ≤ nn ∧ nn ≤ 6 ∧ pe_T V nn) ∧ md_A F Ln Sg 0 V ∧ (dn = 0 ∨ (dn = 1 ∧ md_D nn (pe V nn nn) F Ln Sg PR sv rk ms))
def md_W (cI cJ : ClassId) (mo fg le sg tp bl pr rs : Nat) (V : Nat → Rat) (nn : Nat) (dn th : Int) (w : List (Nat × va_E)) : Prop := ∃ (F Ln Sg T0 B0 PR RS : Nat → Int) (sv rk tn ms : Int), w = [(mo, mo_ fg le sg tp bl pr rs (((nn : Nat) : Int)) (dn) (sv) (rk) (tn) (ms) (th)), (fg, aI cI (52200) (F)), (le, aI cI (190) (Ln)), (sg, aI cI (90) (Sg)), (tp, aI cI (1300) (T0)), (bl, aI cI (1300) (B0)), (pr, aI cI (6) (PR)), (rs, aJ cJ (36) (RS))] ∧ md_R V nn dn sv rk ms F Ln Sg PR

/-- an unknown -/
def pe_x (s : peS) (n j : Nat) : Rat := if peP s j < 0 then 0 else peM s (peP s j).toNat n / peM s (peP s j).toNat j
/-- a told row, times the unknowns -/
def pe_rs (V : Nat → Rat) (s : peS) (n i : Nat) : Nat → Rat
  | 0 => 0
  | j + 1 => pe_rs V s n i j + pe_x s n j * V (7 * i + j)
theorem pe_x_b {V : Nat → Rat} {n : Nat} {s : peS} (hT : pe_T V n) (hn : n ≤ 6) (h : peV V n n s) {j : Nat} (hj : j < n) : (peP s j = -1 ∧ pe_x s n j = 0) ∨ (∃ i : Nat, i < n ∧ peP s j = (i : Int) ∧ peM s i j ≠ 0 ∧ pe_x s n j = peM s i n / peM s i j ∧ (pe_x s n j).num.natAbs ≤ 7 * pe_B 6 ∧ (pe_x s n j).den ≤ pe_B 6 ∧ pe_x s n j = (peE s i n : Rat) / (peL s (peR s) : Rat)) := by
  rcases h.2.2.2.2.2.2.2.2.1 j hj with q | ⟨i, h1, h2, h3⟩
  · left
    exact ⟨q, if_pos (by omega)⟩
  · right
    have hx := peV_x hT hn h h1
    rw [h3] at hx
    have e : pe_x s n j = peM s i n / peM s i j := by
      unfold pe_x
      rw [if_neg (by omega), h2, Int.toNat_natCast]
    have := h.1.2.1
    exact ⟨i, by omega, h2, hx.2.1, e, by rw [e]; exact hx.2.2.2.1, by rw [e]; exact hx.2.2.2.2, by rw [e]; exact hx.1⟩
theorem pe_x83 {V : Nat → Rat} {n : Nat} {s : peS} (hT : pe_T V n) (hn : n ≤ 6) (h : peV V n n s) {j : Nat} (hj : j < n) : (((pe_x s n j).num.natAbs : Nat) : Int) < hx_p 83 ∧ (((pe_x s n j).den : Nat) : Int) < hx_p 83 := by
  have hB : 7 * pe_B 6 < 65536 ^ 83 := by decide +kernel
  have e : hx_p 83 = ((65536 ^ 83 : Nat) : Int) := by show (65536 : Int) ^ 83 = _; simp
  rw [e]
  generalize 65536 ^ 83 = T at *
  rcases pe_x_b hT hn h hj with ⟨_, q⟩ | ⟨i, _, _, _, _, q1, q2, _⟩
  · have := pe_B_pos 6
    rw [q]
    exact ⟨show (((0 : Nat)) : Int) < _ by omega, show (((1 : Nat)) : Int) < _ by omega⟩
  · exact ⟨by omega, by omega⟩
theorem md_addb {x y : Rat} {a b : Nat} (h1 : ((x.num.natAbs : Nat) : Int) < hx_p a) (h2 : ((x.den : Nat) : Int) < hx_p a) (h3 : ((y.num.natAbs : Nat) : Int) < hx_p b) (h4 : ((y.den : Nat) : Int) < hx_p b) : (((x + y).num.natAbs : Nat) : Int) < hx_p (a + b + 1) ∧ (((x + y).den : Nat) : Int) < hx_p (a + b + 1) := by
  have ex := (Rat.mkRat_eq_div x.num x.den).symm.trans (Rat.mkRat_self _)
  have ey := (Rat.mkRat_eq_div y.num y.den).symm.trans (Rat.mkRat_self _)
  have hxd := pe_ne_n (Nat.ne_of_gt x.den_pos)
  have hyd := pe_ne_n (Nat.ne_of_gt y.den_pos)
  have e : x + y = ((x.num * (y.den : Int) + y.num * (x.den : Int) : Int) : Rat) / (((x.den : Int) * (y.den : Int) : Int) : Rat) := by
    rw [Rat.intCast_add, Rat.intCast_mul, Rat.intCast_mul, Rat.intCast_mul, show (((x.den : Nat) : Int) : Rat) = (x.den : Rat) from rfl, show (((y.den : Nat) : Int) : Rat) = (y.den : Rat) from rfl]
    generalize (x.num : Rat) = a1 at *
    generalize (x.den : Rat) = a2 at *
    generalize (y.num : Rat) = a3 at *
    generalize (y.den : Rat) = a4 at *
    rw [← ex, ← ey]
    grind
  have r := pe_lowest (Int.mul_ne_zero (by have := x.den_pos; omega) (by have := y.den_pos; omega)) e
  have r1 := Int.natAbs_add_le (x.num * (y.den : Int)) (y.num * (x.den : Int))
  rw [Int.natAbs_mul, Int.natAbs_mul, Int.natAbs_natCast, Int.natAbs_natCast] at r1
  have r2 := r.2
  rw [Int.natAbs_mul, Int.natAbs_natCast, Int.natAbs_natCast] at r2
  have m1 := md_mulb h1 h4
  have m2 := md_mulb h3 h2
  have m3 := md_mulb h2 h4
  rw [Nat.add_comm b a] at m2
  have hp := hx_ps (a + b)
  have hq := hx_p_pos (a + b)
  exact ⟨by omega, by omega⟩
theorem pe_V2 {V : Nat → Rat} {n i j : Nat} (hT : pe_T V n) (hi : i < n) (hj : j ≤ n) : (((V (7 * i + j)).num.natAbs : Nat) : Int) < hx_p 2 ∧ (((V (7 * i + j)).den : Nat) : Int) < hx_p 2 := by
  have := hT i j hi hj
  rw [show hx_p 2 = 4294967296 from rfl]
  exact ⟨by omega, by omega⟩
theorem pe_rs_b {V : Nat → Rat} {n i : Nat} {s : peS} (hT : pe_T V n) (hn : n ≤ 6) (h : peV V n n s) (hi : i < n) : ∀ j : Nat, j ≤ n → (((pe_rs V s n i j).num.natAbs : Nat) : Int) < hx_p (86 * j + 1) ∧ (((pe_rs V s n i j).den : Nat) : Int) < hx_p (86 * j + 1) := by
  intro j
  induction j with
  | zero => intro _; exact ⟨by show (0 : Int) < 65536; decide, by show (1 : Int) < 65536; decide⟩
  | succ j ih =>
    intro hj
    have h1 := ih (by omega)
    have h2 := pe_x83 hT hn h (j := j) (by omega)
    have h3 := pe_V2 hT hi (j := j) (by omega)
    have h4 := md_mulq h2.1 h2.2 h3.1 h3.2
    have h5 := md_addb h1.1 h1.2 h4.1 h4.2
    rw [show 86 * j + 1 + (83 + 2) + 1 = 86 * (j + 1) + 1 by omega] at h5
    exact h5
theorem pe_T_set {V : Nat → Rat} {n f : Nat} {nm d : Int} (hT : pe_T V n) (h1 : iR nm) (h2 : iR d) (h0 : d ≠ 0) : pe_T (zu V f (mkRat (if d < 0 then -nm else nm) d.natAbs)) n := by
  intro i j hi hj
  by_cases q : 7 * i + j = f
  · rw [q, zu_s]
    have h := md_set (nm := nm) h0 _ rfl
    rw [h.1, h.2.1]
    have a1 := h1.1
    have a2 := h1.2
    have b1 := h2.1
    have b2 := h2.2
    have c1 := Nat.div_le_self nm.natAbs (Nat.gcd nm.natAbs d.natAbs)
    have c2 := Nat.div_le_self d.natAbs (Nat.gcd nm.natAbs d.natAbs)
    exact ⟨by omega, by omega⟩
  · rw [zu_n _ _ q]
    exact hT i j hi hj
theorem pe_T_0 (n : Nat) : pe_T (fun _ => 0) n := fun i j _ _ => ⟨by show (0 : Nat) ≤ _; omega, by show (1 : Nat) ≤ _; omega⟩
theorem md_A.at {F Ln Sg : Nat → Int} {fr : Nat} {V : Nat → Rat} (h : md_A F Ln Sg fr V) {j : Nat} (hj : j < 42) : md_f F Ln Sg (fr + j) (V j) := h j hj
theorem md_A.at0 {F Ln Sg : Nat → Int} {V : Nat → Rat} (h : md_A F Ln Sg 0 V) {j : Nat} (hj : j < 42) : md_f F Ln Sg j (V j) := by
  have := h j hj
  rw [Nat.zero_add] at this
  exact this
theorem md_D.fl {nn : Nat} {s : peS} {F Ln Sg PR : Nat → Int} {sv rk ms : Int} (h : md_D nn s F Ln Sg PR sv rk ms) {i j : Nat} (hi : i < 6) (hj : j < 7) : md_f F Ln Sg (42 + (7 * i + j)) (peM s i j) := by
  have := h.1 (7 * i + j) (by omega)
  rw [pe_fl_at _ hj] at this
  exact this
theorem md_R.keep {V : Nat → Rat} {nn : Nat} {dn sv rk ms : Int} {F Ln Sg PR G L1 S1 : Nat → Int} (h : md_R V nn dn sv rk ms F Ln Sg PR) (hk : ∀ g : Nat, g < 90 → g < 85 → md_ef F Ln Sg G L1 S1 g) : md_R V nn dn sv rk ms G L1 S1 PR := by
  refine ⟨h.1, fun j hj => (hk _ (by omega) (by omega)).f (h.2.1 j hj), ?_⟩
  rcases h.2.2 with q | ⟨q, w⟩
  · exact Or.inl q
  · exact Or.inr ⟨q, fun j hj => (hk _ (by omega) (by omega)).f (w.1 j hj), (hk _ (by decide) (by decide)).f w.2.1, w.2.2⟩
theorem md_ans {sg vn vd wh z r1 r2 : Int} (h1 : bg_tl sg vn vd wh z r1) (h2 : bg_tl sg vn vd wh z r2) (hl : ∀ v x y : Int, bg_lm v z x → bg_lm v z y → x = y) : r1 = r2 := by
  rcases h1 with ⟨a1, a2⟩ | ⟨a1, a2⟩ <;> rcases h2 with ⟨b1, b2⟩ | ⟨b1, b2⟩
  · rw [a2, b2]
  · exact absurd a1 b1
  · exact absurd b1 a1
  · rcases a2 with ⟨a3, x, a4, a5⟩ | ⟨a3, a4⟩ <;> rcases b2 with ⟨b3, y, b4, b5⟩ | ⟨b3, b4⟩
    · rw [a4, b4, bg_lc_uniq a5 b5]
    · exact absurd a3 b3
    · exact absurd b3 a3
    · exact hl _ _ _ a4 b4
set_option maxHeartbeats 4000000 in
set_option maxRecDepth 100000 in
/-- Model.solve -/
theorem c_solve (l : Launch) (D : va_G) (cI cJ cE cF cR : ClassId) (mo fg le sg tp bl pr rs nn : Nat) (dn sv rk tn ms th : Int) (c9 : Nat) (F Ln Sg T0 B0 PR : Nat → Int) (V : Nat → Rat) (s8 : peS) (hn : nn ≤ 6) (hT : pe_T V nn) (hVs : peV V nn nn s8) (hDD : md_D nn s8 F Ln Sg PR sv rk ms) (hc9 : c9 < nn) : Cv l D (zty cI cJ cE cF cR) yX11_solve wsX11_solve (zRm 8 250) 0 0 [.ref (mo), .int (iZ (((c9 : Nat) : Int)))] [(mo, mo_ fg le sg tp bl pr rs (((nn : Nat) : Int)) (dn) (sv) (rk) (tn) (ms) (th)), (fg, aI cI (52200) (F)), (le, aI cI (190) (Ln)), (sg, aI cI (90) (Sg)), (tp, aI cI (1300) (T0)), (bl, aI cI (1300) (B0)), (pr, aI cI (6) (PR))] (fun w1 => ∃ (G L1 S1 T1 B1 : Nat → Int), w1 = [(mo, mo_ fg le sg tp bl pr rs (((nn : Nat) : Int)) (dn) (sv) (rk) (tn) (ms) (th)), (fg, aI cI (52200) (G)), (le, aI cI (190) (L1)), (sg, aI cI (90) (S1)), (tp, aI cI (1300) (T1)), (bl, aI cI (1300) (B1)), (pr, aI cI (6) (PR))] ∧ (∀ g : Nat, g < 90 → g ≠ 85 → md_ef F Ln Sg G L1 S1 g) ∧ md_f G L1 S1 85 (pe_x s8 nn c9)) := by
  unfold Cv
  refine zs (Qc := zQv D _ _) (cc := cX11_solve) (maxL := 3) (ret := none) (by decide) rfl (Nat.le_of_ble_eq_true rfl) ?_
  intro zp ze s zm below meth zc ls A args Q hQ hx hb hr hts hown hlk hml hnm hN hA hK hP hD hS hl
  have q_f_RX11_30_LimbSolverModel_pivotRow_I := hts (.fieldLink RX11 30 "LimbSolverModel" "pivotRow" "[I") (by decide +kernel)
  have hin11 : ∀ w ∈ wsX110, w ∈ wsX11_solve := by decide +kernel
  have q_f_RX11_26_LimbSolverModel_n_I := hts (.fieldLink RX11 26 "LimbSolverModel" "n" "I") (by decide +kernel)
  have hl : lv_has ls 3 [(0, .ref (mo)), (1, .int (iZ (((c9 : Nat) : Int))))] := hl
  rcases pe_x_b hT hn hVs hc9 with ⟨hp1, hxe⟩ | ⟨i, hi, hp1, hp0, hxe, _⟩
  · refine lv_aload_n hx hb dX11_solve_0 rfl (lv_at hl 0 rfl) ?_
    refine va_get (D := D) (ci := 11) (v := .ref (pr)) (C := RX11) (T := TX11) (N := 14) hx hb hts hin11 hown hK hP 0 rfl rfl 11 (by decide) q_f_RX11_30_LimbSolverModel_pivotRow_I (fun _ h9 => h9) rfl dX11_solve_1 ?_
    refine lv_iload_n hx hb dX11_solve_4 rfl (lv_at hl 1 rfl) ?_
    refine zr_iald hx hb hK hP 6 0 rfl rfl (c9) (by omega) (by omega) (by omega) dX11_solve_5 ?_
    refine zr_eqi (peP s8 c9) (hDD.2.2.2.2.2 c9 hc9) ?_
    refine lv_istore_n (lv' := [(2, .int (iZ (peP s8 c9))), (0, .ref (mo)), (1, .int (iZ (((c9 : Nat) : Int))))]) hx hb dX11_solve_6 rfl hl (by decide) rfl (fun ls hl => ?_)
    refine lv_iload_n hx hb dX11_solve_7 rfl (lv_at hl 0 rfl) ?_
    refine zr_if_ge hx hb 20 ⟨by omega, by omega⟩ dX11_solve_8 (by decide) (fun h_8 => ?_) (fun h_8 => ?_)
    · exfalso; omega
    · refine lv_aload_n hx hb dX11_solve_11 rfl (lv_at hl 1 rfl) ?_
      refine lv_bipush (v := iZ 85) hx hb dX11_solve_12 (by decide) ?_
      refine zr_eqi (((85 : Nat) : Int)) (by rfl) ?_
      refine zc_Vv (As := [.int (iZ (((85 : Nat) : Int)))]) (rest := []) (wr := [(tp, aI cI (1300) (T0)), (bl, aI cI (1300) (B0)), (pr, aI cI (6) (PR))]) ⟨hx, hb, hml, hown, hts⟩ (c_mzero l D cI cJ cE cF cR mo fg le sg tp bl pr rs ((nn : Nat) : Int) dn sv rk tn ms th 85 F Ln Sg (by decide)) (cwV 1 hts gX11_solve_X11_zero rfl rfl rfl (by decide +kernel) ⟨Nat.le_of_ble_eq_true rfl, Nat.le_of_ble_eq_true rfl⟩) hN hK hP hD hS hA [0, 1, 2, 3] [4, 5, 6] rfl rfl (by decide) (by decide) (by decide) (q0 := 0) (ci := 11) rfl rfl rfl rfl hl.1 (Nat.le_of_ble_eq_true rfl) dX11_solve_14 ⟨by decide, by decide⟩ (fun w1 H locs hp hP hD hS => ?_)
      obtain ⟨F2, L2, S2, hw9, hk2, hf2⟩ := hp
      subst hw9
      have hP := hP.sub (ws' := [(mo, mo_ fg le sg tp bl pr rs (((nn : Nat) : Int)) (dn) (sv) (rk) (tn) (ms) (th)), (fg, aI cI (52200) (F2)), (le, aI cI (190) (L2)), (sg, aI cI (90) (S2)), (tp, aI cI (1300) (T0)), (bl, aI cI (1300) (B0)), (pr, aI cI (6) (PR))]) [3, 4, 5, 6, 0, 1, 2] rfl
      have hD := hD.sub (ws' := [(mo, mo_ fg le sg tp bl pr rs (((nn : Nat) : Int)) (dn) (sv) (rk) (tn) (ms) (th)), (fg, aI cI (52200) (F2)), (le, aI cI (190) (L2)), (sg, aI cI (90) (S2)), (tp, aI cI (1300) (T0)), (bl, aI cI (1300) (B0)), (pr, aI cI (6) (PR))]) [3, 4, 5, 6, 0, 1, 2] (by decide) rfl
      refine lv_goto (tgt := 45) hx hb dX11_solve_17 (by decide) ?_
      exact zr_vret hQ hx hb hr hlk dX11_solve_45 hK hP hD hS (by omega) (by omega) (⟨F2, L2, S2, T0, B0, rfl, hk2, by rw [hxe]; exact hf2⟩)
  · have hxa := hDD.fl (i := i) (j := nn) (by omega) (by omega)
    have hxb := hDD.fl (i := i) (j := c9) (by omega) (by omega)
    refine lv_aload_n hx hb dX11_solve_0 rfl (lv_at hl 0 rfl) ?_
    refine va_get (D := D) (ci := 11) (v := .ref (pr)) (C := RX11) (T := TX11) (N := 14) hx hb hts hin11 hown hK hP 0 rfl rfl 11 (by decide) q_f_RX11_30_LimbSolverModel_pivotRow_I (fun _ h9 => h9) rfl dX11_solve_1 ?_
    refine lv_iload_n hx hb dX11_solve_4 rfl (lv_at hl 1 rfl) ?_
    refine zr_iald hx hb hK hP 6 0 rfl rfl (c9) (by omega) (by omega) (by omega) dX11_solve_5 ?_
    refine zr_eqi (peP s8 c9) (hDD.2.2.2.2.2 c9 hc9) ?_
    refine lv_istore_n (lv' := [(2, .int (iZ (peP s8 c9))), (0, .ref (mo)), (1, .int (iZ (((c9 : Nat) : Int))))]) hx hb dX11_solve_6 rfl hl (by decide) rfl (fun ls hl => ?_)
    refine lv_iload_n hx hb dX11_solve_7 rfl (lv_at hl 0 rfl) ?_
    refine zr_if_ge hx hb 20 ⟨by omega, by omega⟩ dX11_solve_8 (by decide) (fun h_8 => ?_) (fun h_8 => ?_)
    · refine lv_aload_n hx hb dX11_solve_20 rfl (lv_at hl 1 rfl) ?_
      refine lv_bipush (v := iZ 85) hx hb dX11_solve_21 (by decide) ?_
      refine zr_eqi (((85 : Nat) : Int)) (by rfl) ?_
      refine lv_bipush (v := iZ 42) hx hb dX11_solve_23 (by decide) ?_
      refine lv_iload_n hx hb dX11_solve_25 rfl (lv_at hl 0 rfl) ?_
      refine zr_eqi (((i : Nat) : Int)) (by omega) ?_
      refine lv_aload_n hx hb dX11_solve_26 rfl (lv_at hl 1 rfl) ?_
      refine va_get (D := D) (ci := 11) (v := .int (iZ (((nn : Nat) : Int)))) (C := RX11) (T := TX11) (N := 14) hx hb hts hin11 hown hK hP 0 rfl rfl 5 (by decide) q_f_RX11_26_LimbSolverModel_n_I (fun _ h9 => h9) rfl dX11_solve_27 ?_
      refine zc_Si (As := [.int (iZ (((i : Nat) : Int))), .int (iZ (((nn : Nat) : Int)))]) (rest := [.int (iZ (42)), .int (iZ (((85 : Nat) : Int))), .ref (mo)]) (wr := [(mo, mo_ fg le sg tp bl pr rs (((nn : Nat) : Int)) (dn) (sv) (rk) (tn) (ms) (th)), (fg, aI cI (52200) (F)), (le, aI cI (190) (Ln)), (sg, aI cI (90) (Sg)), (tp, aI cI (1300) (T0)), (bl, aI cI (1300) (B0)), (pr, aI cI (6) (PR))]) ⟨hx, hb, hml, hown, hts⟩ (c_place l D cI cJ cE cF cR (i) (nn) (by omega) (by omega)) (va_cwS 2 hts gX11_solve_X11_place rfl rfl rfl (by decide +kernel) ⟨Nat.le_of_ble_eq_true rfl, Nat.le_of_ble_eq_true rfl⟩) hN hK hP hD hS hA [] [0, 1, 2, 3, 4, 5, 6] rfl rfl (by decide) (by decide) (by decide) rfl hl.1 (Nat.le_of_ble_eq_true rfl) dX11_solve_30 ⟨by decide, by decide⟩ (fun z30 w1 H locs hz30 hp hP hD hS => ?_)
      obtain ⟨hw9, hx0⟩ := hp
      subst hw9
      subst hx0
      have hP := hP.sub (ws' := [(mo, mo_ fg le sg tp bl pr rs (((nn : Nat) : Int)) (dn) (sv) (rk) (tn) (ms) (th)), (fg, aI cI (52200) (F)), (le, aI cI (190) (Ln)), (sg, aI cI (90) (Sg)), (tp, aI cI (1300) (T0)), (bl, aI cI (1300) (B0)), (pr, aI cI (6) (PR))]) [0, 1, 2, 3, 4, 5, 6] rfl
      have hD := hD.sub (ws' := [(mo, mo_ fg le sg tp bl pr rs (((nn : Nat) : Int)) (dn) (sv) (rk) (tn) (ms) (th)), (fg, aI cI (52200) (F)), (le, aI cI (190) (Ln)), (sg, aI cI (90) (Sg)), (tp, aI cI (1300) (T0)), (bl, aI cI (1300) (B0)), (pr, aI cI (6) (PR))]) [0, 1, 2, 3, 4, 5, 6] (by decide) rfl
      refine zr_iadd hx hb dX11_solve_33 ?_
      refine zr_eqi (((42 + (7 * i + nn) : Nat) : Int)) (by omega) ?_
      refine lv_bipush (v := iZ 42) hx hb dX11_solve_34 (by decide) ?_
      refine lv_iload_n hx hb dX11_solve_36 rfl (lv_at hl 0 rfl) ?_
      refine zr_eqi (((i : Nat) : Int)) (by omega) ?_
      refine lv_iload_n hx hb dX11_solve_37 rfl (lv_at hl 2 rfl) ?_
      refine zc_Si (As := [.int (iZ (((i : Nat) : Int))), .int (iZ (((c9 : Nat) : Int)))]) (rest := [.int (iZ (42)), .int (iZ (((42 + (7 * i + nn) : Nat) : Int))), .int (iZ (((85 : Nat) : Int))), .ref (mo)]) (wr := [(mo, mo_ fg le sg tp bl pr rs (((nn : Nat) : Int)) (dn) (sv) (rk) (tn) (ms) (th)), (fg, aI cI (52200) (F)), (le, aI cI (190) (Ln)), (sg, aI cI (90) (Sg)), (tp, aI cI (1300) (T0)), (bl, aI cI (1300) (B0)), (pr, aI cI (6) (PR))]) ⟨hx, hb, hml, hown, hts⟩ (c_place l D cI cJ cE cF cR (i) (c9) (by omega) (by omega)) (va_cwS 2 hts gX11_solve_X11_place rfl rfl rfl (by decide +kernel) ⟨Nat.le_of_ble_eq_true rfl, Nat.le_of_ble_eq_true rfl⟩) hN hK hP hD hS hA [] [0, 1, 2, 3, 4, 5, 6] rfl rfl (by decide) (by decide) (by decide) rfl hl.1 (Nat.le_of_ble_eq_true rfl) dX11_solve_38 ⟨by decide, by decide⟩ (fun z38 w1 H locs hz38 hp hP hD hS => ?_)
      obtain ⟨hw9, hx0⟩ := hp
      subst hw9
      subst hx0
      have hP := hP.sub (ws' := [(mo, mo_ fg le sg tp bl pr rs (((nn : Nat) : Int)) (dn) (sv) (rk) (tn) (ms) (th)), (fg, aI cI (52200) (F)), (le, aI cI (190) (Ln)), (sg, aI cI (90) (Sg)), (tp, aI cI (1300) (T0)), (bl, aI cI (1300) (B0)), (pr, aI cI (6) (PR))]) [0, 1, 2, 3, 4, 5, 6] rfl
      have hD := hD.sub (ws' := [(mo, mo_ fg le sg tp bl pr rs (((nn : Nat) : Int)) (dn) (sv) (rk) (tn) (ms) (th)), (fg, aI cI (52200) (F)), (le, aI cI (190) (Ln)), (sg, aI cI (90) (Sg)), (tp, aI cI (1300) (T0)), (bl, aI cI (1300) (B0)), (pr, aI cI (6) (PR))]) [0, 1, 2, 3, 4, 5, 6] (by decide) rfl
      refine zr_iadd hx hb dX11_solve_41 ?_
      refine zr_eqi (((42 + (7 * i + c9) : Nat) : Int)) (by omega) ?_
      refine zc_Vv (As := [.int (iZ (((85 : Nat) : Int))), .int (iZ (((42 + (7 * i + nn) : Nat) : Int))), .int (iZ (((42 + (7 * i + c9) : Nat) : Int)))]) (rest := []) (wr := [(pr, aI cI (6) (PR))]) ⟨hx, hb, hml, hown, hts⟩ (c_mquotient l D cI cJ cE cF cR mo fg le sg tp bl pr rs ((nn : Nat) : Int) dn sv rk tn ms th 85 (42 + (7 * i + nn)) (42 + (7 * i + c9)) 180 180 F Ln Sg T0 B0 (peM s8 i nn) (peM s8 i c9) (by decide) (by omega) (by omega) hxa hxb (hxa.b (by omega)).1 (hxa.b (by omega)).2 (hxb.b (by omega)).1 (hxb.b (by omega)).2 (by decide) hp0) (cwV 3 hts gX11_solve_X11_quotient rfl rfl rfl (by decide +kernel) ⟨Nat.le_of_ble_eq_true rfl, Nat.le_of_ble_eq_true rfl⟩) hN hK hP hD hS hA [0, 1, 2, 3, 4, 5] [6] rfl rfl (by decide) (by decide) (by decide) (q0 := 0) (ci := 11) rfl rfl rfl rfl hl.1 (Nat.le_of_ble_eq_true rfl) dX11_solve_42 ⟨by decide, by decide⟩ (fun w1 H locs hp hP hD hS => ?_)
      obtain ⟨F2, L2, S2, T2, B2, hw9, hk2, hf2⟩ := hp
      subst hw9
      have hP := hP.sub (ws' := [(mo, mo_ fg le sg tp bl pr rs (((nn : Nat) : Int)) (dn) (sv) (rk) (tn) (ms) (th)), (fg, aI cI (52200) (F2)), (le, aI cI (190) (L2)), (sg, aI cI (90) (S2)), (tp, aI cI (1300) (T2)), (bl, aI cI (1300) (B2)), (pr, aI cI (6) (PR))]) [1, 2, 3, 4, 5, 6, 0] rfl
      have hD := hD.sub (ws' := [(mo, mo_ fg le sg tp bl pr rs (((nn : Nat) : Int)) (dn) (sv) (rk) (tn) (ms) (th)), (fg, aI cI (52200) (F2)), (le, aI cI (190) (L2)), (sg, aI cI (90) (S2)), (tp, aI cI (1300) (T2)), (bl, aI cI (1300) (B2)), (pr, aI cI (6) (PR))]) [1, 2, 3, 4, 5, 6, 0] (by decide) rfl
      exact zr_vret hQ hx hb hr hlk dX11_solve_45 hK hP hD hS (by omega) (by omega) (⟨F2, L2, S2, T2, B2, rfl, hk2, by rw [hxe]; exact hf2⟩)
    · exfalso; omega

set_option maxHeartbeats 4000000 in
set_option maxRecDepth 100000 in
/-- Model.size -/
theorem c_msize (l : Launch) (D : va_G) (cI cJ cE cF cR : ClassId) (mo fg le sg tp bl pr rs nn : Nat) (dn sv rk tn ms th : Int) (z1 : Int) (F Ln Sg T0 B0 PR RS : Nat → Int) (V : Nat → Rat) (hR : md_R V nn dn sv rk ms F Ln Sg PR) (hz1 : iR z1) : Cv l D (zty cI cJ cE cF cR) yX11_size wsX11_size (zRm 4 110) 0 0 [.ref (mo), .int (iZ (z1))] [(mo, mo_ fg le sg tp bl pr rs (((nn : Nat) : Int)) (dn) (sv) (rk) (tn) (ms) (th)), (fg, aI cI (52200) (F)), (le, aI cI (190) (Ln)), (sg, aI cI (90) (Sg)), (tp, aI cI (1300) (T0)), (bl, aI cI (1300) (B0)), (pr, aI cI (6) (PR)), (rs, aJ cJ (36) (RS))] (fun w1 => ∃ tc : Int, ((z1 < 1 ∨ 6 < z1) ∧ tc = 1 ∧ md_W cI cJ mo fg le sg tp bl pr rs (V) (nn) (dn) (tc) w1) ∨ ((1 ≤ z1 ∧ z1 ≤ 6) ∧ tc = 0 ∧ md_W cI cJ mo fg le sg tp bl pr rs (fun _ => 0) (z1.toNat) (0) (tc) w1)) := by
  unfold Cv
  refine zs (Qc := zQv D _ _) (cc := cX11_size) (maxL := 2) (ret := none) (by decide) rfl (Nat.le_of_ble_eq_true rfl) ?_
  intro zp ze s zm below meth zc ls A args Q hQ hx hb hr hts hown hlk hml hnm hN hA hK hP hD hS hl
  have q_f_RX11_40_LimbSolverModel_thrown_I := hts (.fieldLink RX11 40 "LimbSolverModel" "thrown" "I") (by decide +kernel)
  have hin11 : ∀ w ∈ wsX110, w ∈ wsX11_size := by decide +kernel
  have q_f_RX11_26_LimbSolverModel_n_I := hts (.fieldLink RX11 26 "LimbSolverModel" "n" "I") (by decide +kernel)
  have hl : lv_has ls 2 [(0, .ref (mo)), (1, .int (iZ (z1)))] := hl
  obtain ⟨⟨h1n, hn, hT⟩, hAA, hdn⟩ := id hR
  have hz2 := hz1.1
  have hz3 := hz1.2
  refine lv_aload_n hx hb dX11_size_0 rfl (lv_at hl 0 rfl) ?_
  refine lv_iload_n hx hb dX11_size_1 rfl (lv_at hl 1 rfl) ?_
  refine lv_iconst (v := iZ 1) hx hb dX11_size_2 rfl ?_
  refine zr_icmp_lt hx hb 12 hz1 (by decide) dX11_size_3 (by decide) (fun h_3 => ?_) (fun h_3 => ?_)
  · refine lv_iconst (v := iZ 1) hx hb dX11_size_12 rfl ?_
    refine lv_goto (tgt := 17) hx hb dX11_size_13 (by decide) ?_
    refine va_put (D := D) (ci := 11) (v := .int (iZ (1))) (ty := tyX11 12) (C := RX11) (T := TX11) (N := 14) hx hb hts hin11 tyX11 tyX11_ok nmX11 hown hK hP hD hS 0 rfl rfl 12 (by decide) q_f_RX11_40_LimbSolverModel_thrown_I (fun _ h9 => h9) rfl (tyX11_ok 12 (by decide)) rfl rfl (Nat.le_of_ble_eq_true rfl) dX11_size_17 (fun H locs hP hD hS => ?_)
    have hP : va_P D vwCl [(mo, mo_ fg le sg tp bl pr rs (((nn : Nat) : Int)) (dn) (sv) (rk) (tn) (ms) (1)), (fg, aI cI (52200) (F)), (le, aI cI (190) (Ln)), (sg, aI cI (90) (Sg)), (tp, aI cI (1300) (T0)), (bl, aI cI (1300) (B0)), (pr, aI cI (6) (PR)), (rs, aJ cJ (36) (RS))] H := hP
    have hD : va_D A [(mo, mo_ fg le sg tp bl pr rs (((nn : Nat) : Int)) (dn) (sv) (rk) (tn) (ms) (1)), (fg, aI cI (52200) (F)), (le, aI cI (190) (Ln)), (sg, aI cI (90) (Sg)), (tp, aI cI (1300) (T0)), (bl, aI cI (1300) (B0)), (pr, aI cI (6) (PR)), (rs, aJ cJ (36) (RS))] := hD
    refine lv_aload_n hx hb dX11_size_20 rfl (lv_at hl 0 rfl) ?_
    refine va_get (D := D) (ci := 11) (v := .int (iZ (1))) (C := RX11) (T := TX11) (N := 14) hx hb hts hin11 hown hK hP 0 rfl rfl 12 (by decide) q_f_RX11_40_LimbSolverModel_thrown_I (fun _ h9 => h9) rfl dX11_size_21 ?_
    refine zr_if_ne hx hb 36 ⟨by omega, by omega⟩ dX11_size_24 (by decide) (fun h_24 => ?_) (fun h_24 => ?_)
    · exact zr_vret hQ hx hb hr hlk dX11_size_36 hK hP hD hS (by omega) (by omega) (⟨1, Or.inl ⟨by omega, rfl, ⟨F, Ln, Sg, T0, B0, PR, RS, _, _, _, _, rfl, hR⟩⟩⟩)
    · exfalso; omega
  · refine lv_iload_n hx hb dX11_size_6 rfl (lv_at hl 1 rfl) ?_
    refine lv_bipush (v := iZ 6) hx hb dX11_size_7 (by decide) ?_
    refine zr_icmp_le hx hb 16 hz1 (by decide) dX11_size_9 (by decide) (fun h_9 => ?_) (fun h_9 => ?_)
    · refine lv_iconst (v := iZ 0) hx hb dX11_size_16 rfl ?_
      refine va_put (D := D) (ci := 11) (v := .int (iZ (0))) (ty := tyX11 12) (C := RX11) (T := TX11) (N := 14) hx hb hts hin11 tyX11 tyX11_ok nmX11 hown hK hP hD hS 0 rfl rfl 12 (by decide) q_f_RX11_40_LimbSolverModel_thrown_I (fun _ h9 => h9) rfl (tyX11_ok 12 (by decide)) rfl rfl (Nat.le_of_ble_eq_true rfl) dX11_size_17 (fun H locs hP hD hS => ?_)
      have hP : va_P D vwCl [(mo, mo_ fg le sg tp bl pr rs (((nn : Nat) : Int)) (dn) (sv) (rk) (tn) (ms) (0)), (fg, aI cI (52200) (F)), (le, aI cI (190) (Ln)), (sg, aI cI (90) (Sg)), (tp, aI cI (1300) (T0)), (bl, aI cI (1300) (B0)), (pr, aI cI (6) (PR)), (rs, aJ cJ (36) (RS))] H := hP
      have hD : va_D A [(mo, mo_ fg le sg tp bl pr rs (((nn : Nat) : Int)) (dn) (sv) (rk) (tn) (ms) (0)), (fg, aI cI (52200) (F)), (le, aI cI (190) (Ln)), (sg, aI cI (90) (Sg)), (tp, aI cI (1300) (T0)), (bl, aI cI (1300) (B0)), (pr, aI cI (6) (PR)), (rs, aJ cJ (36) (RS))] := hD
      refine lv_aload_n hx hb dX11_size_20 rfl (lv_at hl 0 rfl) ?_
      refine va_get (D := D) (ci := 11) (v := .int (iZ (0))) (C := RX11) (T := TX11) (N := 14) hx hb hts hin11 hown hK hP 0 rfl rfl 12 (by decide) q_f_RX11_40_LimbSolverModel_thrown_I (fun _ h9 => h9) rfl dX11_size_21 ?_
      refine zr_if_ne hx hb 36 ⟨by omega, by omega⟩ dX11_size_24 (by decide) (fun h_24 => ?_) (fun h_24 => ?_)
      · exfalso; omega
      · refine lv_aload_n hx hb dX11_size_27 rfl (lv_at hl 0 rfl) ?_
        refine lv_iload_n hx hb dX11_size_28 rfl (lv_at hl 1 rfl) ?_
        refine zr_eqi (((z1.toNat : Nat) : Int)) (by omega) ?_
        refine va_put (D := D) (ci := 11) (v := .int (iZ (((z1.toNat : Nat) : Int)))) (ty := tyX11 5) (C := RX11) (T := TX11) (N := 14) hx hb hts hin11 tyX11 tyX11_ok nmX11 hown hK hP hD hS 0 rfl rfl 5 (by decide) q_f_RX11_26_LimbSolverModel_n_I (fun _ h9 => h9) rfl (tyX11_ok 5 (by decide)) rfl rfl (Nat.le_of_ble_eq_true rfl) dX11_size_29 (fun H locs hP hD hS => ?_)
        have hP : va_P D vwCl [(mo, mo_ fg le sg tp bl pr rs (((z1.toNat : Nat) : Int)) (dn) (sv) (rk) (tn) (ms) (0)), (fg, aI cI (52200) (F)), (le, aI cI (190) (Ln)), (sg, aI cI (90) (Sg)), (tp, aI cI (1300) (T0)), (bl, aI cI (1300) (B0)), (pr, aI cI (6) (PR)), (rs, aJ cJ (36) (RS))] H := hP
        have hD : va_D A [(mo, mo_ fg le sg tp bl pr rs (((z1.toNat : Nat) : Int)) (dn) (sv) (rk) (tn) (ms) (0)), (fg, aI cI (52200) (F)), (le, aI cI (190) (Ln)), (sg, aI cI (90) (Sg)), (tp, aI cI (1300) (T0)), (bl, aI cI (1300) (B0)), (pr, aI cI (6) (PR)), (rs, aJ cJ (36) (RS))] := hD
        refine lv_aload_n hx hb dX11_size_32 rfl (lv_at hl 0 rfl) ?_
        refine zc_Vv (As := []) (rest := []) (wr := [(tp, aI cI (1300) (T0)), (bl, aI cI (1300) (B0)), (pr, aI cI (6) (PR)), (rs, aJ cJ (36) (RS))]) ⟨hx, hb, hml, hown, hts⟩ (c_mclear l D cI cJ cE cF cR mo fg le sg tp bl pr rs z1.toNat dn sv rk tn ms 0 F Ln Sg) (cwV 0 hts gX11_size_X11_clear rfl rfl rfl (by decide +kernel) ⟨Nat.le_of_ble_eq_true rfl, Nat.le_of_ble_eq_true rfl⟩) hN hK hP hD hS hA [0, 1, 2, 3] [4, 5, 6, 7] rfl rfl (by decide) (by decide) (by decide) (q0 := 0) (ci := 11) rfl rfl rfl rfl hl.1 (Nat.le_of_ble_eq_true rfl) dX11_size_33 ⟨by decide, by decide⟩ (fun w1 H locs hp hP hD hS => ?_)
        obtain ⟨F2, L2, S2, hw9, hk2, hf2⟩ := hp
        subst hw9
        have hP := hP.sub (ws' := [(mo, mo_ fg le sg tp bl pr rs (((z1.toNat : Nat) : Int)) (0) (sv) (rk) (tn) (ms) (0)), (fg, aI cI (52200) (F2)), (le, aI cI (190) (L2)), (sg, aI cI (90) (S2)), (tp, aI cI (1300) (T0)), (bl, aI cI (1300) (B0)), (pr, aI cI (6) (PR)), (rs, aJ cJ (36) (RS))]) [4, 5, 6, 7, 0, 1, 2, 3] rfl
        have hD := hD.sub (ws' := [(mo, mo_ fg le sg tp bl pr rs (((z1.toNat : Nat) : Int)) (0) (sv) (rk) (tn) (ms) (0)), (fg, aI cI (52200) (F2)), (le, aI cI (190) (L2)), (sg, aI cI (90) (S2)), (tp, aI cI (1300) (T0)), (bl, aI cI (1300) (B0)), (pr, aI cI (6) (PR)), (rs, aJ cJ (36) (RS))]) [4, 5, 6, 7, 0, 1, 2, 3] (by decide) rfl
        exact zr_vret hQ hx hb hr hlk dX11_size_36 hK hP hD hS (by omega) (by omega) (⟨0, Or.inr ⟨by omega, rfl, F2, L2, S2, T0, B0, PR, RS, _, _, _, _, rfl, ⟨by omega, by omega, pe_T_0 _⟩, hf2, Or.inl rfl⟩⟩)
    · refine lv_iconst (v := iZ 1) hx hb dX11_size_12 rfl ?_
      refine lv_goto (tgt := 17) hx hb dX11_size_13 (by decide) ?_
      refine va_put (D := D) (ci := 11) (v := .int (iZ (1))) (ty := tyX11 12) (C := RX11) (T := TX11) (N := 14) hx hb hts hin11 tyX11 tyX11_ok nmX11 hown hK hP hD hS 0 rfl rfl 12 (by decide) q_f_RX11_40_LimbSolverModel_thrown_I (fun _ h9 => h9) rfl (tyX11_ok 12 (by decide)) rfl rfl (Nat.le_of_ble_eq_true rfl) dX11_size_17 (fun H locs hP hD hS => ?_)
      have hP : va_P D vwCl [(mo, mo_ fg le sg tp bl pr rs (((nn : Nat) : Int)) (dn) (sv) (rk) (tn) (ms) (1)), (fg, aI cI (52200) (F)), (le, aI cI (190) (Ln)), (sg, aI cI (90) (Sg)), (tp, aI cI (1300) (T0)), (bl, aI cI (1300) (B0)), (pr, aI cI (6) (PR)), (rs, aJ cJ (36) (RS))] H := hP
      have hD : va_D A [(mo, mo_ fg le sg tp bl pr rs (((nn : Nat) : Int)) (dn) (sv) (rk) (tn) (ms) (1)), (fg, aI cI (52200) (F)), (le, aI cI (190) (Ln)), (sg, aI cI (90) (Sg)), (tp, aI cI (1300) (T0)), (bl, aI cI (1300) (B0)), (pr, aI cI (6) (PR)), (rs, aJ cJ (36) (RS))] := hD
      refine lv_aload_n hx hb dX11_size_20 rfl (lv_at hl 0 rfl) ?_
      refine va_get (D := D) (ci := 11) (v := .int (iZ (1))) (C := RX11) (T := TX11) (N := 14) hx hb hts hin11 hown hK hP 0 rfl rfl 12 (by decide) q_f_RX11_40_LimbSolverModel_thrown_I (fun _ h9 => h9) rfl dX11_size_21 ?_
      refine zr_if_ne hx hb 36 ⟨by omega, by omega⟩ dX11_size_24 (by decide) (fun h_24 => ?_) (fun h_24 => ?_)
      · exact zr_vret hQ hx hb hr hlk dX11_size_36 hK hP hD hS (by omega) (by omega) (⟨1, Or.inl ⟨by omega, rfl, ⟨F, Ln, Sg, T0, B0, PR, RS, _, _, _, _, rfl, hR⟩⟩⟩)
      · exfalso; omega

set_option maxHeartbeats 4000000 in
set_option maxRecDepth 100000 in
/-- Model.set -/
theorem c_mset (l : Launch) (D : va_G) (cI cJ cE cF cR : ClassId) (mo fg le sg tp bl pr rs nn : Nat) (dn sv rk tn ms th : Int) (z1 z2 z3 z4 : Int) (F Ln Sg T0 B0 PR RS : Nat → Int) (V : Nat → Rat) (hR : md_R V nn dn sv rk ms F Ln Sg PR) (hz1 : iR z1) (hz2 : iR z2) (hz3 : iR z3) (hz4 : iR z4) : Ci l D (zty cI cJ cE cF cR) yX11_set wsX11_set (zRm 3 90) 0 0 [.ref (mo), .int (iZ (z1)), .int (iZ (z2)), .int (iZ (z3)), .int (iZ (z4))] [(mo, mo_ fg le sg tp bl pr rs (((nn : Nat) : Int)) (dn) (sv) (rk) (tn) (ms) (th)), (fg, aI cI (52200) (F)), (le, aI cI (190) (Ln)), (sg, aI cI (90) (Sg)), (tp, aI cI (1300) (T0)), (bl, aI cI (1300) (B0)), (pr, aI cI (6) (PR)), (rs, aJ cJ (36) (RS))] (fun r w1 => ∃ tc : Int, ((z1 < 0 ∨ (nn : Int) ≤ z1 ∨ z2 < 0 ∨ (nn : Int) ≤ z2) ∧ tc = 1 ∧ md_W cI cJ mo fg le sg tp bl pr rs (V) (nn) (dn) (tc) w1) ∨ (¬ (z1 < 0 ∨ (nn : Int) ≤ z1 ∨ z2 < 0 ∨ (nn : Int) ≤ z2) ∧ z4 = 0 ∧ tc = 2 ∧ md_W cI cJ mo fg le sg tp bl pr rs (V) (nn) (dn) (tc) w1) ∨ (¬ (z1 < 0 ∨ (nn : Int) ≤ z1 ∨ z2 < 0 ∨ (nn : Int) ≤ z2) ∧ z4 ≠ 0 ∧ tc = 0 ∧ md_W cI cJ mo fg le sg tp bl pr rs (zu V (7 * z1.toNat + z2.toNat) (mkRat (if z4 < 0 then -z3 else z3) z4.natAbs)) (nn) (0) (tc) w1 ∧ r = ((mta (zu V (7 * z1.toNat + z2.toNat) (mkRat (if z4 < 0 then -z3 else z3) z4.natAbs)) nn nn : Nat) : Int))) := by
  unfold Ci
  refine zs (Qc := zQi D _ _) (cc := cX11_set) (maxL := 5) (ret := (some .int)) (by decide) rfl (Nat.le_of_ble_eq_true rfl) ?_
  intro zp ze s zm below meth zc ls A args Q hQ hx hb hr hts hown hlk hml hnm hN hA hK hP hD hS hl
  have q_f_RX11_40_LimbSolverModel_thrown_I := hts (.fieldLink RX11 40 "LimbSolverModel" "thrown" "I") (by decide +kernel)
  have hin11 : ∀ w ∈ wsX110, w ∈ wsX11_set := by decide +kernel
  have q_f_RX11_26_LimbSolverModel_n_I := hts (.fieldLink RX11 26 "LimbSolverModel" "n" "I") (by decide +kernel)
  have hl : lv_has ls 5 [(0, .ref (mo)), (1, .int (iZ (z1))), (2, .int (iZ (z2))), (3, .int (iZ (z3))), (4, .int (iZ (z4)))] := hl
  obtain ⟨⟨h1n, hn, hT⟩, hAA, hdn⟩ := id hR
  have hz11 := hz1.1
  have hz12 := hz1.2
  have hz21 := hz2.1
  have hz22 := hz2.2
  have hz41 := hz4.1
  have hz42 := hz4.2
  refine lv_aload_n hx hb dX11_set_0 rfl (lv_at hl 0 rfl) ?_
  refine lv_iload_n hx hb dX11_set_1 rfl (lv_at hl 1 rfl) ?_
  refine zr_if_lt hx hb 25 hz1 dX11_set_2 (by decide) (fun h_2 => ?_) (fun h_2 => ?_)
  · refine lv_iconst (v := iZ 1) hx hb dX11_set_25 rfl ?_
    refine lv_goto (tgt := 39) hx hb dX11_set_26 (by decide) ?_
    refine va_put (D := D) (ci := 11) (v := .int (iZ (1))) (ty := tyX11 12) (C := RX11) (T := TX11) (N := 14) hx hb hts hin11 tyX11 tyX11_ok nmX11 hown hK hP hD hS 0 rfl rfl 12 (by decide) q_f_RX11_40_LimbSolverModel_thrown_I (fun _ h9 => h9) rfl (tyX11_ok 12 (by decide)) rfl rfl (Nat.le_of_ble_eq_true rfl) dX11_set_39 (fun H locs hP hD hS => ?_)
    have hP : va_P D vwCl [(mo, mo_ fg le sg tp bl pr rs (((nn : Nat) : Int)) (dn) (sv) (rk) (tn) (ms) (1)), (fg, aI cI (52200) (F)), (le, aI cI (190) (Ln)), (sg, aI cI (90) (Sg)), (tp, aI cI (1300) (T0)), (bl, aI cI (1300) (B0)), (pr, aI cI (6) (PR)), (rs, aJ cJ (36) (RS))] H := hP
    have hD : va_D A [(mo, mo_ fg le sg tp bl pr rs (((nn : Nat) : Int)) (dn) (sv) (rk) (tn) (ms) (1)), (fg, aI cI (52200) (F)), (le, aI cI (190) (Ln)), (sg, aI cI (90) (Sg)), (tp, aI cI (1300) (T0)), (bl, aI cI (1300) (B0)), (pr, aI cI (6) (PR)), (rs, aJ cJ (36) (RS))] := hD
    refine lv_aload_n hx hb dX11_set_42 rfl (lv_at hl 0 rfl) ?_
    refine va_get (D := D) (ci := 11) (v := .int (iZ (1))) (C := RX11) (T := TX11) (N := 14) hx hb hts hin11 hown hK hP 0 rfl rfl 12 (by decide) q_f_RX11_40_LimbSolverModel_thrown_I (fun _ h9 => h9) rfl dX11_set_43 ?_
    refine zr_if_le hx hb 53 ⟨by omega, by omega⟩ dX11_set_46 (by decide) (fun h_46 => ?_) (fun h_46 => ?_)
    · exfalso; omega
    · refine lv_iconst (v := iZ 0) hx hb dX11_set_49 rfl ?_
      refine lv_goto (tgt := 65) hx hb dX11_set_50 (by decide) ?_
      exact zr_iret hQ hx hb hr hlk dX11_set_65 hK hP hD hS (by omega) (by omega) (by first | decide | exact hz62) (⟨1, Or.inl ⟨by omega, rfl, ⟨F, Ln, Sg, T0, B0, PR, RS, _, _, _, _, rfl, hR⟩⟩⟩)
  · refine lv_iload_n hx hb dX11_set_5 rfl (lv_at hl 1 rfl) ?_
    refine lv_aload_n hx hb dX11_set_6 rfl (lv_at hl 0 rfl) ?_
    refine va_get (D := D) (ci := 11) (v := .int (iZ (((nn : Nat) : Int)))) (C := RX11) (T := TX11) (N := 14) hx hb hts hin11 hown hK hP 0 rfl rfl 5 (by decide) q_f_RX11_26_LimbSolverModel_n_I (fun _ h9 => h9) rfl dX11_set_7 ?_
    refine zr_icmp_ge hx hb 25 hz1 ⟨by omega, by omega⟩ dX11_set_10 (by decide) (fun h_10 => ?_) (fun h_10 => ?_)
    · refine lv_iconst (v := iZ 1) hx hb dX11_set_25 rfl ?_
      refine lv_goto (tgt := 39) hx hb dX11_set_26 (by decide) ?_
      refine va_put (D := D) (ci := 11) (v := .int (iZ (1))) (ty := tyX11 12) (C := RX11) (T := TX11) (N := 14) hx hb hts hin11 tyX11 tyX11_ok nmX11 hown hK hP hD hS 0 rfl rfl 12 (by decide) q_f_RX11_40_LimbSolverModel_thrown_I (fun _ h9 => h9) rfl (tyX11_ok 12 (by decide)) rfl rfl (Nat.le_of_ble_eq_true rfl) dX11_set_39 (fun H locs hP hD hS => ?_)
      have hP : va_P D vwCl [(mo, mo_ fg le sg tp bl pr rs (((nn : Nat) : Int)) (dn) (sv) (rk) (tn) (ms) (1)), (fg, aI cI (52200) (F)), (le, aI cI (190) (Ln)), (sg, aI cI (90) (Sg)), (tp, aI cI (1300) (T0)), (bl, aI cI (1300) (B0)), (pr, aI cI (6) (PR)), (rs, aJ cJ (36) (RS))] H := hP
      have hD : va_D A [(mo, mo_ fg le sg tp bl pr rs (((nn : Nat) : Int)) (dn) (sv) (rk) (tn) (ms) (1)), (fg, aI cI (52200) (F)), (le, aI cI (190) (Ln)), (sg, aI cI (90) (Sg)), (tp, aI cI (1300) (T0)), (bl, aI cI (1300) (B0)), (pr, aI cI (6) (PR)), (rs, aJ cJ (36) (RS))] := hD
      refine lv_aload_n hx hb dX11_set_42 rfl (lv_at hl 0 rfl) ?_
      refine va_get (D := D) (ci := 11) (v := .int (iZ (1))) (C := RX11) (T := TX11) (N := 14) hx hb hts hin11 hown hK hP 0 rfl rfl 12 (by decide) q_f_RX11_40_LimbSolverModel_thrown_I (fun _ h9 => h9) rfl dX11_set_43 ?_
      refine zr_if_le hx hb 53 ⟨by omega, by omega⟩ dX11_set_46 (by decide) (fun h_46 => ?_) (fun h_46 => ?_)
      · exfalso; omega
      · refine lv_iconst (v := iZ 0) hx hb dX11_set_49 rfl ?_
        refine lv_goto (tgt := 65) hx hb dX11_set_50 (by decide) ?_
        exact zr_iret hQ hx hb hr hlk dX11_set_65 hK hP hD hS (by omega) (by omega) (by first | decide | exact hz62) (⟨1, Or.inl ⟨by omega, rfl, ⟨F, Ln, Sg, T0, B0, PR, RS, _, _, _, _, rfl, hR⟩⟩⟩)
    · refine lv_iload_n hx hb dX11_set_13 rfl (lv_at hl 2 rfl) ?_
      refine zr_if_lt hx hb 25 hz2 dX11_set_14 (by decide) (fun h_14 => ?_) (fun h_14 => ?_)
      · refine lv_iconst (v := iZ 1) hx hb dX11_set_25 rfl ?_
        refine lv_goto (tgt := 39) hx hb dX11_set_26 (by decide) ?_
        refine va_put (D := D) (ci := 11) (v := .int (iZ (1))) (ty := tyX11 12) (C := RX11) (T := TX11) (N := 14) hx hb hts hin11 tyX11 tyX11_ok nmX11 hown hK hP hD hS 0 rfl rfl 12 (by decide) q_f_RX11_40_LimbSolverModel_thrown_I (fun _ h9 => h9) rfl (tyX11_ok 12 (by decide)) rfl rfl (Nat.le_of_ble_eq_true rfl) dX11_set_39 (fun H locs hP hD hS => ?_)
        have hP : va_P D vwCl [(mo, mo_ fg le sg tp bl pr rs (((nn : Nat) : Int)) (dn) (sv) (rk) (tn) (ms) (1)), (fg, aI cI (52200) (F)), (le, aI cI (190) (Ln)), (sg, aI cI (90) (Sg)), (tp, aI cI (1300) (T0)), (bl, aI cI (1300) (B0)), (pr, aI cI (6) (PR)), (rs, aJ cJ (36) (RS))] H := hP
        have hD : va_D A [(mo, mo_ fg le sg tp bl pr rs (((nn : Nat) : Int)) (dn) (sv) (rk) (tn) (ms) (1)), (fg, aI cI (52200) (F)), (le, aI cI (190) (Ln)), (sg, aI cI (90) (Sg)), (tp, aI cI (1300) (T0)), (bl, aI cI (1300) (B0)), (pr, aI cI (6) (PR)), (rs, aJ cJ (36) (RS))] := hD
        refine lv_aload_n hx hb dX11_set_42 rfl (lv_at hl 0 rfl) ?_
        refine va_get (D := D) (ci := 11) (v := .int (iZ (1))) (C := RX11) (T := TX11) (N := 14) hx hb hts hin11 hown hK hP 0 rfl rfl 12 (by decide) q_f_RX11_40_LimbSolverModel_thrown_I (fun _ h9 => h9) rfl dX11_set_43 ?_
        refine zr_if_le hx hb 53 ⟨by omega, by omega⟩ dX11_set_46 (by decide) (fun h_46 => ?_) (fun h_46 => ?_)
        · exfalso; omega
        · refine lv_iconst (v := iZ 0) hx hb dX11_set_49 rfl ?_
          refine lv_goto (tgt := 65) hx hb dX11_set_50 (by decide) ?_
          exact zr_iret hQ hx hb hr hlk dX11_set_65 hK hP hD hS (by omega) (by omega) (by first | decide | exact hz62) (⟨1, Or.inl ⟨by omega, rfl, ⟨F, Ln, Sg, T0, B0, PR, RS, _, _, _, _, rfl, hR⟩⟩⟩)
      · refine lv_iload_n hx hb dX11_set_17 rfl (lv_at hl 2 rfl) ?_
        refine lv_aload_n hx hb dX11_set_18 rfl (lv_at hl 0 rfl) ?_
        refine va_get (D := D) (ci := 11) (v := .int (iZ (((nn : Nat) : Int)))) (C := RX11) (T := TX11) (N := 14) hx hb hts hin11 hown hK hP 0 rfl rfl 5 (by decide) q_f_RX11_26_LimbSolverModel_n_I (fun _ h9 => h9) rfl dX11_set_19 ?_
        refine zr_icmp_lt hx hb 29 hz2 ⟨by omega, by omega⟩ dX11_set_22 (by decide) (fun h_22 => ?_) (fun h_22 => ?_)
        · refine lv_iload hx hb dX11_set_29 (lv_at hl 4 rfl) ?_
          refine zr_if_ne hx hb 38 hz4 dX11_set_31 (by decide) (fun h_31 => ?_) (fun h_31 => ?_)
          · refine lv_iconst (v := iZ 0) hx hb dX11_set_38 rfl ?_
            refine va_put (D := D) (ci := 11) (v := .int (iZ (0))) (ty := tyX11 12) (C := RX11) (T := TX11) (N := 14) hx hb hts hin11 tyX11 tyX11_ok nmX11 hown hK hP hD hS 0 rfl rfl 12 (by decide) q_f_RX11_40_LimbSolverModel_thrown_I (fun _ h9 => h9) rfl (tyX11_ok 12 (by decide)) rfl rfl (Nat.le_of_ble_eq_true rfl) dX11_set_39 (fun H locs hP hD hS => ?_)
            have hP : va_P D vwCl [(mo, mo_ fg le sg tp bl pr rs (((nn : Nat) : Int)) (dn) (sv) (rk) (tn) (ms) (0)), (fg, aI cI (52200) (F)), (le, aI cI (190) (Ln)), (sg, aI cI (90) (Sg)), (tp, aI cI (1300) (T0)), (bl, aI cI (1300) (B0)), (pr, aI cI (6) (PR)), (rs, aJ cJ (36) (RS))] H := hP
            have hD : va_D A [(mo, mo_ fg le sg tp bl pr rs (((nn : Nat) : Int)) (dn) (sv) (rk) (tn) (ms) (0)), (fg, aI cI (52200) (F)), (le, aI cI (190) (Ln)), (sg, aI cI (90) (Sg)), (tp, aI cI (1300) (T0)), (bl, aI cI (1300) (B0)), (pr, aI cI (6) (PR)), (rs, aJ cJ (36) (RS))] := hD
            refine lv_aload_n hx hb dX11_set_42 rfl (lv_at hl 0 rfl) ?_
            refine va_get (D := D) (ci := 11) (v := .int (iZ (0))) (C := RX11) (T := TX11) (N := 14) hx hb hts hin11 hown hK hP 0 rfl rfl 12 (by decide) q_f_RX11_40_LimbSolverModel_thrown_I (fun _ h9 => h9) rfl dX11_set_43 ?_
            refine zr_if_le hx hb 53 ⟨by omega, by omega⟩ dX11_set_46 (by decide) (fun h_46 => ?_) (fun h_46 => ?_)
            · refine lv_aload_n hx hb dX11_set_53 rfl (lv_at hl 0 rfl) ?_
              refine lv_iload_n hx hb dX11_set_54 rfl (lv_at hl 1 rfl) ?_
              refine zr_eqi (((z1.toNat : Nat) : Int)) (by omega) ?_
              refine lv_iload_n hx hb dX11_set_55 rfl (lv_at hl 2 rfl) ?_
              refine zr_eqi (((z2.toNat : Nat) : Int)) (by omega) ?_
              refine zc_Si (As := [.int (iZ (((z1.toNat : Nat) : Int))), .int (iZ (((z2.toNat : Nat) : Int)))]) (rest := [.ref (mo)]) (wr := [(mo, mo_ fg le sg tp bl pr rs (((nn : Nat) : Int)) (dn) (sv) (rk) (tn) (ms) (0)), (fg, aI cI (52200) (F)), (le, aI cI (190) (Ln)), (sg, aI cI (90) (Sg)), (tp, aI cI (1300) (T0)), (bl, aI cI (1300) (B0)), (pr, aI cI (6) (PR)), (rs, aJ cJ (36) (RS))]) ⟨hx, hb, hml, hown, hts⟩ (c_place l D cI cJ cE cF cR (z1.toNat) (z2.toNat) (by omega) (by omega)) (va_cwS 2 hts gX11_set_X11_place rfl rfl rfl (by decide +kernel) ⟨Nat.le_of_ble_eq_true rfl, Nat.le_of_ble_eq_true rfl⟩) hN hK hP hD hS hA [] [0, 1, 2, 3, 4, 5, 6, 7] rfl rfl (by decide) (by decide) (by decide) rfl hl.1 (Nat.le_of_ble_eq_true rfl) dX11_set_56 ⟨by decide, by decide⟩ (fun z56 w1 H locs hz56 hp hP hD hS => ?_)
              obtain ⟨hw9, hx0⟩ := hp
              subst hw9
              subst hx0
              have hP := hP.sub (ws' := [(mo, mo_ fg le sg tp bl pr rs (((nn : Nat) : Int)) (dn) (sv) (rk) (tn) (ms) (0)), (fg, aI cI (52200) (F)), (le, aI cI (190) (Ln)), (sg, aI cI (90) (Sg)), (tp, aI cI (1300) (T0)), (bl, aI cI (1300) (B0)), (pr, aI cI (6) (PR)), (rs, aJ cJ (36) (RS))]) [0, 1, 2, 3, 4, 5, 6, 7] rfl
              have hD := hD.sub (ws' := [(mo, mo_ fg le sg tp bl pr rs (((nn : Nat) : Int)) (dn) (sv) (rk) (tn) (ms) (0)), (fg, aI cI (52200) (F)), (le, aI cI (190) (Ln)), (sg, aI cI (90) (Sg)), (tp, aI cI (1300) (T0)), (bl, aI cI (1300) (B0)), (pr, aI cI (6) (PR)), (rs, aJ cJ (36) (RS))]) [0, 1, 2, 3, 4, 5, 6, 7] (by decide) rfl
              refine lv_iload_n hx hb dX11_set_59 rfl (lv_at hl 3 rfl) ?_
              refine lv_iload hx hb dX11_set_60 (lv_at hl 4 rfl) ?_
              refine zc_Vi (As := [.int (iZ (((7 * z1.toNat + z2.toNat : Nat) : Int))), .int (iZ (z3)), .int (iZ (z4))]) (rest := []) (wr := [(tp, aI cI (1300) (T0)), (bl, aI cI (1300) (B0)), (pr, aI cI (6) (PR)), (rs, aJ cJ (36) (RS))]) ⟨hx, hb, hml, hown, hts⟩ (c_setOne l D cI cJ cE cF cR mo fg le sg tp bl pr rs nn dn sv rk tn ms (0) (7 * z1.toNat + z2.toNat) z3 z4 F Ln Sg V hn (by omega) hz3 hz4 (by omega) hAA) (cwV 3 hts gX11_set_X11_setOne rfl rfl rfl (by decide +kernel) ⟨Nat.le_of_ble_eq_true rfl, Nat.le_of_ble_eq_true rfl⟩) hN hK hP hD hS hA [0, 1, 2, 3] [4, 5, 6, 7] rfl rfl (by decide) (by decide) (by decide) (q0 := 0) (ci := 11) rfl rfl rfl rfl hl.1 (Nat.le_of_ble_eq_true rfl) dX11_set_62 ⟨by decide, by decide⟩ (fun rv w1 H locs hz62 hp hP hD hS => ?_)
              obtain ⟨F2, L2, S2, hw9, hk2, hf2, hr0⟩ := hp
              subst hw9
              have hP := hP.sub (ws' := [(mo, mo_ fg le sg tp bl pr rs (((nn : Nat) : Int)) (0) (sv) (rk) (tn) (ms) (0)), (fg, aI cI (52200) (F2)), (le, aI cI (190) (L2)), (sg, aI cI (90) (S2)), (tp, aI cI (1300) (T0)), (bl, aI cI (1300) (B0)), (pr, aI cI (6) (PR)), (rs, aJ cJ (36) (RS))]) [4, 5, 6, 7, 0, 1, 2, 3] rfl
              have hD := hD.sub (ws' := [(mo, mo_ fg le sg tp bl pr rs (((nn : Nat) : Int)) (0) (sv) (rk) (tn) (ms) (0)), (fg, aI cI (52200) (F2)), (le, aI cI (190) (L2)), (sg, aI cI (90) (S2)), (tp, aI cI (1300) (T0)), (bl, aI cI (1300) (B0)), (pr, aI cI (6) (PR)), (rs, aJ cJ (36) (RS))]) [4, 5, 6, 7, 0, 1, 2, 3] (by decide) rfl
              exact zr_iret hQ hx hb hr hlk dX11_set_65 hK hP hD hS (by omega) (by omega) (by first | decide | exact hz62) (⟨0, Or.inr (Or.inr ⟨by omega, by omega, rfl, ⟨F2, L2, S2, T0, B0, PR, RS, _, _, _, _, rfl, ⟨h1n, hn, pe_T_set hT hz3 hz4 (by omega)⟩, hAA.upd hk2 hf2, Or.inl rfl⟩, hr0⟩)⟩)
            · exfalso; omega
          · refine lv_iconst (v := iZ 2) hx hb dX11_set_34 rfl ?_
            refine lv_goto (tgt := 39) hx hb dX11_set_35 (by decide) ?_
            refine va_put (D := D) (ci := 11) (v := .int (iZ (2))) (ty := tyX11 12) (C := RX11) (T := TX11) (N := 14) hx hb hts hin11 tyX11 tyX11_ok nmX11 hown hK hP hD hS 0 rfl rfl 12 (by decide) q_f_RX11_40_LimbSolverModel_thrown_I (fun _ h9 => h9) rfl (tyX11_ok 12 (by decide)) rfl rfl (Nat.le_of_ble_eq_true rfl) dX11_set_39 (fun H locs hP hD hS => ?_)
            have hP : va_P D vwCl [(mo, mo_ fg le sg tp bl pr rs (((nn : Nat) : Int)) (dn) (sv) (rk) (tn) (ms) (2)), (fg, aI cI (52200) (F)), (le, aI cI (190) (Ln)), (sg, aI cI (90) (Sg)), (tp, aI cI (1300) (T0)), (bl, aI cI (1300) (B0)), (pr, aI cI (6) (PR)), (rs, aJ cJ (36) (RS))] H := hP
            have hD : va_D A [(mo, mo_ fg le sg tp bl pr rs (((nn : Nat) : Int)) (dn) (sv) (rk) (tn) (ms) (2)), (fg, aI cI (52200) (F)), (le, aI cI (190) (Ln)), (sg, aI cI (90) (Sg)), (tp, aI cI (1300) (T0)), (bl, aI cI (1300) (B0)), (pr, aI cI (6) (PR)), (rs, aJ cJ (36) (RS))] := hD
            refine lv_aload_n hx hb dX11_set_42 rfl (lv_at hl 0 rfl) ?_
            refine va_get (D := D) (ci := 11) (v := .int (iZ (2))) (C := RX11) (T := TX11) (N := 14) hx hb hts hin11 hown hK hP 0 rfl rfl 12 (by decide) q_f_RX11_40_LimbSolverModel_thrown_I (fun _ h9 => h9) rfl dX11_set_43 ?_
            refine zr_if_le hx hb 53 ⟨by omega, by omega⟩ dX11_set_46 (by decide) (fun h_46 => ?_) (fun h_46 => ?_)
            · exfalso; omega
            · refine lv_iconst (v := iZ 0) hx hb dX11_set_49 rfl ?_
              refine lv_goto (tgt := 65) hx hb dX11_set_50 (by decide) ?_
              exact zr_iret hQ hx hb hr hlk dX11_set_65 hK hP hD hS (by omega) (by omega) (by first | decide | exact hz62) (⟨2, Or.inr (Or.inl ⟨by omega, by omega, rfl, ⟨F, Ln, Sg, T0, B0, PR, RS, _, _, _, _, rfl, hR⟩⟩)⟩)
        · refine lv_iconst (v := iZ 1) hx hb dX11_set_25 rfl ?_
          refine lv_goto (tgt := 39) hx hb dX11_set_26 (by decide) ?_
          refine va_put (D := D) (ci := 11) (v := .int (iZ (1))) (ty := tyX11 12) (C := RX11) (T := TX11) (N := 14) hx hb hts hin11 tyX11 tyX11_ok nmX11 hown hK hP hD hS 0 rfl rfl 12 (by decide) q_f_RX11_40_LimbSolverModel_thrown_I (fun _ h9 => h9) rfl (tyX11_ok 12 (by decide)) rfl rfl (Nat.le_of_ble_eq_true rfl) dX11_set_39 (fun H locs hP hD hS => ?_)
          have hP : va_P D vwCl [(mo, mo_ fg le sg tp bl pr rs (((nn : Nat) : Int)) (dn) (sv) (rk) (tn) (ms) (1)), (fg, aI cI (52200) (F)), (le, aI cI (190) (Ln)), (sg, aI cI (90) (Sg)), (tp, aI cI (1300) (T0)), (bl, aI cI (1300) (B0)), (pr, aI cI (6) (PR)), (rs, aJ cJ (36) (RS))] H := hP
          have hD : va_D A [(mo, mo_ fg le sg tp bl pr rs (((nn : Nat) : Int)) (dn) (sv) (rk) (tn) (ms) (1)), (fg, aI cI (52200) (F)), (le, aI cI (190) (Ln)), (sg, aI cI (90) (Sg)), (tp, aI cI (1300) (T0)), (bl, aI cI (1300) (B0)), (pr, aI cI (6) (PR)), (rs, aJ cJ (36) (RS))] := hD
          refine lv_aload_n hx hb dX11_set_42 rfl (lv_at hl 0 rfl) ?_
          refine va_get (D := D) (ci := 11) (v := .int (iZ (1))) (C := RX11) (T := TX11) (N := 14) hx hb hts hin11 hown hK hP 0 rfl rfl 12 (by decide) q_f_RX11_40_LimbSolverModel_thrown_I (fun _ h9 => h9) rfl dX11_set_43 ?_
          refine zr_if_le hx hb 53 ⟨by omega, by omega⟩ dX11_set_46 (by decide) (fun h_46 => ?_) (fun h_46 => ?_)
          · exfalso; omega
          · refine lv_iconst (v := iZ 0) hx hb dX11_set_49 rfl ?_
            refine lv_goto (tgt := 65) hx hb dX11_set_50 (by decide) ?_
            exact zr_iret hQ hx hb hr hlk dX11_set_65 hK hP hD hS (by omega) (by omega) (by first | decide | exact hz62) (⟨1, Or.inl ⟨by omega, rfl, ⟨F, Ln, Sg, T0, B0, PR, RS, _, _, _, _, rfl, hR⟩⟩⟩)

set_option maxHeartbeats 4000000 in
set_option maxRecDepth 100000 in
/-- Model.right -/
theorem c_mright (l : Launch) (D : va_G) (cI cJ cE cF cR : ClassId) (mo fg le sg tp bl pr rs nn : Nat) (dn sv rk tn ms th : Int) (z1 z3 z4 : Int) (F Ln Sg T0 B0 PR RS : Nat → Int) (V : Nat → Rat) (hR : md_R V nn dn sv rk ms F Ln Sg PR) (hz1 : iR z1) (hz3 : iR z3) (hz4 : iR z4) : Ci l D (zty cI cJ cE cF cR) yX11_right wsX11_right (zRm 3 90) 0 0 [.ref (mo), .int (iZ (z1)), .int (iZ (z3)), .int (iZ (z4))] [(mo, mo_ fg le sg tp bl pr rs (((nn : Nat) : Int)) (dn) (sv) (rk) (tn) (ms) (th)), (fg, aI cI (52200) (F)), (le, aI cI (190) (Ln)), (sg, aI cI (90) (Sg)), (tp, aI cI (1300) (T0)), (bl, aI cI (1300) (B0)), (pr, aI cI (6) (PR)), (rs, aJ cJ (36) (RS))] (fun r w1 => ∃ tc : Int, ((z1 < 0 ∨ (nn : Int) ≤ z1) ∧ tc = 1 ∧ md_W cI cJ mo fg le sg tp bl pr rs (V) (nn) (dn) (tc) w1) ∨ (¬ (z1 < 0 ∨ (nn : Int) ≤ z1) ∧ z4 = 0 ∧ tc = 2 ∧ md_W cI cJ mo fg le sg tp bl pr rs (V) (nn) (dn) (tc) w1) ∨ (¬ (z1 < 0 ∨ (nn : Int) ≤ z1) ∧ z4 ≠ 0 ∧ tc = 0 ∧ md_W cI cJ mo fg le sg tp bl pr rs (zu V (7 * z1.toNat + nn) (mkRat (if z4 < 0 then -z3 else z3) z4.natAbs)) (nn) (0) (tc) w1 ∧ r = ((mta (zu V (7 * z1.toNat + nn) (mkRat (if z4 < 0 then -z3 else z3) z4.natAbs)) nn nn : Nat) : Int))) := by
  unfold Ci
  refine zs (Qc := zQi D _ _) (cc := cX11_right) (maxL := 4) (ret := (some .int)) (by decide) rfl (Nat.le_of_ble_eq_true rfl) ?_
  intro zp ze s zm below meth zc ls A args Q hQ hx hb hr hts hown hlk hml hnm hN hA hK hP hD hS hl
  have q_f_RX11_40_LimbSolverModel_thrown_I := hts (.fieldLink RX11 40 "LimbSolverModel" "thrown" "I") (by decide +kernel)
  have hin11 : ∀ w ∈ wsX110, w ∈ wsX11_right := by decide +kernel
  have q_f_RX11_26_LimbSolverModel_n_I := hts (.fieldLink RX11 26 "LimbSolverModel" "n" "I") (by decide +kernel)
  have hl : lv_has ls 4 [(0, .ref (mo)), (1, .int (iZ (z1))), (2, .int (iZ (z3))), (3, .int (iZ (z4)))] := hl
  obtain ⟨⟨h1n, hn, hT⟩, hAA, hdn⟩ := id hR
  have hz11 := hz1.1
  have hz12 := hz1.2
  have hz41 := hz4.1
  have hz42 := hz4.2
  refine lv_aload_n hx hb dX11_right_0 rfl (lv_at hl 0 rfl) ?_
  refine lv_iload_n hx hb dX11_right_1 rfl (lv_at hl 1 rfl) ?_
  refine zr_if_lt hx hb 13 hz1 dX11_right_2 (by decide) (fun h_2 => ?_) (fun h_2 => ?_)
  · refine lv_iconst (v := iZ 1) hx hb dX11_right_13 rfl ?_
    refine lv_goto (tgt := 26) hx hb dX11_right_14 (by decide) ?_
    refine va_put (D := D) (ci := 11) (v := .int (iZ (1))) (ty := tyX11 12) (C := RX11) (T := TX11) (N := 14) hx hb hts hin11 tyX11 tyX11_ok nmX11 hown hK hP hD hS 0 rfl rfl 12 (by decide) q_f_RX11_40_LimbSolverModel_thrown_I (fun _ h9 => h9) rfl (tyX11_ok 12 (by decide)) rfl rfl (Nat.le_of_ble_eq_true rfl) dX11_right_26 (fun H locs hP hD hS => ?_)
    have hP : va_P D vwCl [(mo, mo_ fg le sg tp bl pr rs (((nn : Nat) : Int)) (dn) (sv) (rk) (tn) (ms) (1)), (fg, aI cI (52200) (F)), (le, aI cI (190) (Ln)), (sg, aI cI (90) (Sg)), (tp, aI cI (1300) (T0)), (bl, aI cI (1300) (B0)), (pr, aI cI (6) (PR)), (rs, aJ cJ (36) (RS))] H := hP
    have hD : va_D A [(mo, mo_ fg le sg tp bl pr rs (((nn : Nat) : Int)) (dn) (sv) (rk) (tn) (ms) (1)), (fg, aI cI (52200) (F)), (le, aI cI (190) (Ln)), (sg, aI cI (90) (Sg)), (tp, aI cI (1300) (T0)), (bl, aI cI (1300) (B0)), (pr, aI cI (6) (PR)), (rs, aJ cJ (36) (RS))] := hD
    refine lv_aload_n hx hb dX11_right_29 rfl (lv_at hl 0 rfl) ?_
    refine va_get (D := D) (ci := 11) (v := .int (iZ (1))) (C := RX11) (T := TX11) (N := 14) hx hb hts hin11 hown hK hP 0 rfl rfl 12 (by decide) q_f_RX11_40_LimbSolverModel_thrown_I (fun _ h9 => h9) rfl dX11_right_30 ?_
    refine zr_if_le hx hb 40 ⟨by omega, by omega⟩ dX11_right_33 (by decide) (fun h_33 => ?_) (fun h_33 => ?_)
    · exfalso; omega
    · refine lv_iconst (v := iZ 0) hx hb dX11_right_36 rfl ?_
      refine lv_goto (tgt := 54) hx hb dX11_right_37 (by decide) ?_
      exact zr_iret hQ hx hb hr hlk dX11_right_54 hK hP hD hS (by omega) (by omega) (by first | decide | exact hz51) (⟨1, Or.inl ⟨by omega, rfl, ⟨F, Ln, Sg, T0, B0, PR, RS, _, _, _, _, rfl, hR⟩⟩⟩)
  · refine lv_iload_n hx hb dX11_right_5 rfl (lv_at hl 1 rfl) ?_
    refine lv_aload_n hx hb dX11_right_6 rfl (lv_at hl 0 rfl) ?_
    refine va_get (D := D) (ci := 11) (v := .int (iZ (((nn : Nat) : Int)))) (C := RX11) (T := TX11) (N := 14) hx hb hts hin11 hown hK hP 0 rfl rfl 5 (by decide) q_f_RX11_26_LimbSolverModel_n_I (fun _ h9 => h9) rfl dX11_right_7 ?_
    refine zr_icmp_lt hx hb 17 hz1 ⟨by omega, by omega⟩ dX11_right_10 (by decide) (fun h_10 => ?_) (fun h_10 => ?_)
    · refine lv_iload_n hx hb dX11_right_17 rfl (lv_at hl 3 rfl) ?_
      refine zr_if_ne hx hb 25 hz4 dX11_right_18 (by decide) (fun h_18 => ?_) (fun h_18 => ?_)
      · refine lv_iconst (v := iZ 0) hx hb dX11_right_25 rfl ?_
        refine va_put (D := D) (ci := 11) (v := .int (iZ (0))) (ty := tyX11 12) (C := RX11) (T := TX11) (N := 14) hx hb hts hin11 tyX11 tyX11_ok nmX11 hown hK hP hD hS 0 rfl rfl 12 (by decide) q_f_RX11_40_LimbSolverModel_thrown_I (fun _ h9 => h9) rfl (tyX11_ok 12 (by decide)) rfl rfl (Nat.le_of_ble_eq_true rfl) dX11_right_26 (fun H locs hP hD hS => ?_)
        have hP : va_P D vwCl [(mo, mo_ fg le sg tp bl pr rs (((nn : Nat) : Int)) (dn) (sv) (rk) (tn) (ms) (0)), (fg, aI cI (52200) (F)), (le, aI cI (190) (Ln)), (sg, aI cI (90) (Sg)), (tp, aI cI (1300) (T0)), (bl, aI cI (1300) (B0)), (pr, aI cI (6) (PR)), (rs, aJ cJ (36) (RS))] H := hP
        have hD : va_D A [(mo, mo_ fg le sg tp bl pr rs (((nn : Nat) : Int)) (dn) (sv) (rk) (tn) (ms) (0)), (fg, aI cI (52200) (F)), (le, aI cI (190) (Ln)), (sg, aI cI (90) (Sg)), (tp, aI cI (1300) (T0)), (bl, aI cI (1300) (B0)), (pr, aI cI (6) (PR)), (rs, aJ cJ (36) (RS))] := hD
        refine lv_aload_n hx hb dX11_right_29 rfl (lv_at hl 0 rfl) ?_
        refine va_get (D := D) (ci := 11) (v := .int (iZ (0))) (C := RX11) (T := TX11) (N := 14) hx hb hts hin11 hown hK hP 0 rfl rfl 12 (by decide) q_f_RX11_40_LimbSolverModel_thrown_I (fun _ h9 => h9) rfl dX11_right_30 ?_
        refine zr_if_le hx hb 40 ⟨by omega, by omega⟩ dX11_right_33 (by decide) (fun h_33 => ?_) (fun h_33 => ?_)
        · refine lv_aload_n hx hb dX11_right_40 rfl (lv_at hl 0 rfl) ?_
          refine lv_iload_n hx hb dX11_right_41 rfl (lv_at hl 1 rfl) ?_
          refine zr_eqi (((z1.toNat : Nat) : Int)) (by omega) ?_
          refine lv_aload_n hx hb dX11_right_42 rfl (lv_at hl 0 rfl) ?_
          refine va_get (D := D) (ci := 11) (v := .int (iZ (((nn : Nat) : Int)))) (C := RX11) (T := TX11) (N := 14) hx hb hts hin11 hown hK hP 0 rfl rfl 5 (by decide) q_f_RX11_26_LimbSolverModel_n_I (fun _ h9 => h9) rfl dX11_right_43 ?_
          refine zc_Si (As := [.int (iZ (((z1.toNat : Nat) : Int))), .int (iZ (((nn : Nat) : Int)))]) (rest := [.ref (mo)]) (wr := [(mo, mo_ fg le sg tp bl pr rs (((nn : Nat) : Int)) (dn) (sv) (rk) (tn) (ms) (0)), (fg, aI cI (52200) (F)), (le, aI cI (190) (Ln)), (sg, aI cI (90) (Sg)), (tp, aI cI (1300) (T0)), (bl, aI cI (1300) (B0)), (pr, aI cI (6) (PR)), (rs, aJ cJ (36) (RS))]) ⟨hx, hb, hml, hown, hts⟩ (c_place l D cI cJ cE cF cR (z1.toNat) (nn) (by omega) (by omega)) (va_cwS 2 hts gX11_right_X11_place rfl rfl rfl (by decide +kernel) ⟨Nat.le_of_ble_eq_true rfl, Nat.le_of_ble_eq_true rfl⟩) hN hK hP hD hS hA [] [0, 1, 2, 3, 4, 5, 6, 7] rfl rfl (by decide) (by decide) (by decide) rfl hl.1 (Nat.le_of_ble_eq_true rfl) dX11_right_46 ⟨by decide, by decide⟩ (fun z46 w1 H locs hz46 hp hP hD hS => ?_)
          obtain ⟨hw9, hx0⟩ := hp
          subst hw9
          subst hx0
          have hP := hP.sub (ws' := [(mo, mo_ fg le sg tp bl pr rs (((nn : Nat) : Int)) (dn) (sv) (rk) (tn) (ms) (0)), (fg, aI cI (52200) (F)), (le, aI cI (190) (Ln)), (sg, aI cI (90) (Sg)), (tp, aI cI (1300) (T0)), (bl, aI cI (1300) (B0)), (pr, aI cI (6) (PR)), (rs, aJ cJ (36) (RS))]) [0, 1, 2, 3, 4, 5, 6, 7] rfl
          have hD := hD.sub (ws' := [(mo, mo_ fg le sg tp bl pr rs (((nn : Nat) : Int)) (dn) (sv) (rk) (tn) (ms) (0)), (fg, aI cI (52200) (F)), (le, aI cI (190) (Ln)), (sg, aI cI (90) (Sg)), (tp, aI cI (1300) (T0)), (bl, aI cI (1300) (B0)), (pr, aI cI (6) (PR)), (rs, aJ cJ (36) (RS))]) [0, 1, 2, 3, 4, 5, 6, 7] (by decide) rfl
          refine lv_iload_n hx hb dX11_right_49 rfl (lv_at hl 2 rfl) ?_
          refine lv_iload_n hx hb dX11_right_50 rfl (lv_at hl 3 rfl) ?_
          refine zc_Vi (As := [.int (iZ (((7 * z1.toNat + nn : Nat) : Int))), .int (iZ (z3)), .int (iZ (z4))]) (rest := []) (wr := [(tp, aI cI (1300) (T0)), (bl, aI cI (1300) (B0)), (pr, aI cI (6) (PR)), (rs, aJ cJ (36) (RS))]) ⟨hx, hb, hml, hown, hts⟩ (c_setOne l D cI cJ cE cF cR mo fg le sg tp bl pr rs nn dn sv rk tn ms (0) (7 * z1.toNat + nn) z3 z4 F Ln Sg V hn (by omega) hz3 hz4 (by omega) hAA) (cwV 3 hts gX11_right_X11_setOne rfl rfl rfl (by decide +kernel) ⟨Nat.le_of_ble_eq_true rfl, Nat.le_of_ble_eq_true rfl⟩) hN hK hP hD hS hA [0, 1, 2, 3] [4, 5, 6, 7] rfl rfl (by decide) (by decide) (by decide) (q0 := 0) (ci := 11) rfl rfl rfl rfl hl.1 (Nat.le_of_ble_eq_true rfl) dX11_right_51 ⟨by decide, by decide⟩ (fun rv w1 H locs hz51 hp hP hD hS => ?_)
          obtain ⟨F2, L2, S2, hw9, hk2, hf2, hr0⟩ := hp
          subst hw9
          have hP := hP.sub (ws' := [(mo, mo_ fg le sg tp bl pr rs (((nn : Nat) : Int)) (0) (sv) (rk) (tn) (ms) (0)), (fg, aI cI (52200) (F2)), (le, aI cI (190) (L2)), (sg, aI cI (90) (S2)), (tp, aI cI (1300) (T0)), (bl, aI cI (1300) (B0)), (pr, aI cI (6) (PR)), (rs, aJ cJ (36) (RS))]) [4, 5, 6, 7, 0, 1, 2, 3] rfl
          have hD := hD.sub (ws' := [(mo, mo_ fg le sg tp bl pr rs (((nn : Nat) : Int)) (0) (sv) (rk) (tn) (ms) (0)), (fg, aI cI (52200) (F2)), (le, aI cI (190) (L2)), (sg, aI cI (90) (S2)), (tp, aI cI (1300) (T0)), (bl, aI cI (1300) (B0)), (pr, aI cI (6) (PR)), (rs, aJ cJ (36) (RS))]) [4, 5, 6, 7, 0, 1, 2, 3] (by decide) rfl
          exact zr_iret hQ hx hb hr hlk dX11_right_54 hK hP hD hS (by omega) (by omega) (by first | decide | exact hz51) (⟨0, Or.inr (Or.inr ⟨by omega, by omega, rfl, ⟨F2, L2, S2, T0, B0, PR, RS, _, _, _, _, rfl, ⟨h1n, hn, pe_T_set hT hz3 hz4 (by omega)⟩, hAA.upd hk2 hf2, Or.inl rfl⟩, hr0⟩)⟩)
        · exfalso; omega
      · refine lv_iconst (v := iZ 2) hx hb dX11_right_21 rfl ?_
        refine lv_goto (tgt := 26) hx hb dX11_right_22 (by decide) ?_
        refine va_put (D := D) (ci := 11) (v := .int (iZ (2))) (ty := tyX11 12) (C := RX11) (T := TX11) (N := 14) hx hb hts hin11 tyX11 tyX11_ok nmX11 hown hK hP hD hS 0 rfl rfl 12 (by decide) q_f_RX11_40_LimbSolverModel_thrown_I (fun _ h9 => h9) rfl (tyX11_ok 12 (by decide)) rfl rfl (Nat.le_of_ble_eq_true rfl) dX11_right_26 (fun H locs hP hD hS => ?_)
        have hP : va_P D vwCl [(mo, mo_ fg le sg tp bl pr rs (((nn : Nat) : Int)) (dn) (sv) (rk) (tn) (ms) (2)), (fg, aI cI (52200) (F)), (le, aI cI (190) (Ln)), (sg, aI cI (90) (Sg)), (tp, aI cI (1300) (T0)), (bl, aI cI (1300) (B0)), (pr, aI cI (6) (PR)), (rs, aJ cJ (36) (RS))] H := hP
        have hD : va_D A [(mo, mo_ fg le sg tp bl pr rs (((nn : Nat) : Int)) (dn) (sv) (rk) (tn) (ms) (2)), (fg, aI cI (52200) (F)), (le, aI cI (190) (Ln)), (sg, aI cI (90) (Sg)), (tp, aI cI (1300) (T0)), (bl, aI cI (1300) (B0)), (pr, aI cI (6) (PR)), (rs, aJ cJ (36) (RS))] := hD
        refine lv_aload_n hx hb dX11_right_29 rfl (lv_at hl 0 rfl) ?_
        refine va_get (D := D) (ci := 11) (v := .int (iZ (2))) (C := RX11) (T := TX11) (N := 14) hx hb hts hin11 hown hK hP 0 rfl rfl 12 (by decide) q_f_RX11_40_LimbSolverModel_thrown_I (fun _ h9 => h9) rfl dX11_right_30 ?_
        refine zr_if_le hx hb 40 ⟨by omega, by omega⟩ dX11_right_33 (by decide) (fun h_33 => ?_) (fun h_33 => ?_)
        · exfalso; omega
        · refine lv_iconst (v := iZ 0) hx hb dX11_right_36 rfl ?_
          refine lv_goto (tgt := 54) hx hb dX11_right_37 (by decide) ?_
          exact zr_iret hQ hx hb hr hlk dX11_right_54 hK hP hD hS (by omega) (by omega) (by first | decide | exact hz51) (⟨2, Or.inr (Or.inl ⟨by omega, by omega, rfl, ⟨F, Ln, Sg, T0, B0, PR, RS, _, _, _, _, rfl, hR⟩⟩)⟩)
    · refine lv_iconst (v := iZ 1) hx hb dX11_right_13 rfl ?_
      refine lv_goto (tgt := 26) hx hb dX11_right_14 (by decide) ?_
      refine va_put (D := D) (ci := 11) (v := .int (iZ (1))) (ty := tyX11 12) (C := RX11) (T := TX11) (N := 14) hx hb hts hin11 tyX11 tyX11_ok nmX11 hown hK hP hD hS 0 rfl rfl 12 (by decide) q_f_RX11_40_LimbSolverModel_thrown_I (fun _ h9 => h9) rfl (tyX11_ok 12 (by decide)) rfl rfl (Nat.le_of_ble_eq_true rfl) dX11_right_26 (fun H locs hP hD hS => ?_)
      have hP : va_P D vwCl [(mo, mo_ fg le sg tp bl pr rs (((nn : Nat) : Int)) (dn) (sv) (rk) (tn) (ms) (1)), (fg, aI cI (52200) (F)), (le, aI cI (190) (Ln)), (sg, aI cI (90) (Sg)), (tp, aI cI (1300) (T0)), (bl, aI cI (1300) (B0)), (pr, aI cI (6) (PR)), (rs, aJ cJ (36) (RS))] H := hP
      have hD : va_D A [(mo, mo_ fg le sg tp bl pr rs (((nn : Nat) : Int)) (dn) (sv) (rk) (tn) (ms) (1)), (fg, aI cI (52200) (F)), (le, aI cI (190) (Ln)), (sg, aI cI (90) (Sg)), (tp, aI cI (1300) (T0)), (bl, aI cI (1300) (B0)), (pr, aI cI (6) (PR)), (rs, aJ cJ (36) (RS))] := hD
      refine lv_aload_n hx hb dX11_right_29 rfl (lv_at hl 0 rfl) ?_
      refine va_get (D := D) (ci := 11) (v := .int (iZ (1))) (C := RX11) (T := TX11) (N := 14) hx hb hts hin11 hown hK hP 0 rfl rfl 12 (by decide) q_f_RX11_40_LimbSolverModel_thrown_I (fun _ h9 => h9) rfl dX11_right_30 ?_
      refine zr_if_le hx hb 40 ⟨by omega, by omega⟩ dX11_right_33 (by decide) (fun h_33 => ?_) (fun h_33 => ?_)
      · exfalso; omega
      · refine lv_iconst (v := iZ 0) hx hb dX11_right_36 rfl ?_
        refine lv_goto (tgt := 54) hx hb dX11_right_37 (by decide) ?_
        exact zr_iret hQ hx hb hr hlk dX11_right_54 hK hP hD hS (by omega) (by omega) (by first | decide | exact hz51) (⟨1, Or.inl ⟨by omega, rfl, ⟨F, Ln, Sg, T0, B0, PR, RS, _, _, _, _, rfl, hR⟩⟩⟩)
