/-! FRACTIONS of the reference -/
/-- place f holds the fraction x -/
def md_f (F Ln Sg : Nat → Int) (f : Nat) (x : Rat) : Prop := Sg f = x.num.sign ∧ md_n F Ln (2 * f) (x.num.natAbs : Int) ∧ md_n F Ln (2 * f + 1) (x.den : Int)
/-- the fractions as far as they are known -/
def md_S (F Ln Sg : Nat → Int) (A : Nat → Option Rat) : Prop := ∀ g : Nat, g < 90 → ∀ x : Rat, A g = some x → md_f F Ln Sg g x
/-- place f of the fractions is as it was -/
def md_ef (F Ln Sg F' Ln' Sg' : Nat → Int) (f : Nat) : Prop := md_e F Ln F' Ln' (2 * f) ∧ md_e F Ln F' Ln' (2 * f + 1) ∧ Sg' f = Sg f
theorem md_ef.f {F Ln Sg F' Ln' Sg' : Nat → Int} {f : Nat} {x : Rat} (h : md_ef F Ln Sg F' Ln' Sg' f) (hf : md_f F Ln Sg f x) : md_f F' Ln' Sg' f x := ⟨h.2.2.trans hf.1, h.1.n hf.2.1, h.2.1.n hf.2.2⟩
theorem md_S.upd {F Ln Sg F' Ln' Sg' : Nat → Int} {A : Nat → Option Rat} {f : Nat} {x : Rat} (h : md_S F Ln Sg A) (hk : ∀ g : Nat, g < 90 → g ≠ f → md_ef F Ln Sg F' Ln' Sg' g) (hf : md_f F' Ln' Sg' f x) : md_S F' Ln' Sg' (zu A f (some x)) := by
  intro g hg y hy
  by_cases q : g = f
  · subst q
    rw [zu_s] at hy
    obtain rfl : x = y := Option.some.inj hy
    exact hf
  · rw [zu_n A (some x) q] at hy
    exact (hk g hg q).f (h g hg y hy)
theorem md_cop {s : Int} {x y : Nat} (hs : s = 1 ∨ s = -1) : (s * (x : Int)).natAbs = x := by
  rcases hs with h | h <;> subst h <;> omega
theorem md_low {s : Int} {x y : Nat} (hs : s = 1 ∨ s = -1) (hy : 0 < y) (hx : 0 < x) : (mkRat (s * x) y).num.natAbs = x / Nat.gcd x y ∧ (mkRat (s * x) y).den = y / Nat.gcd x y ∧ (mkRat (s * x) y).num.sign = s := by
  have hg : 0 < Nat.gcd x y := Nat.gcd_pos_of_pos_left y hx
  have e1 : (mkRat (s * x) y).num = s * ((x / Nat.gcd x y : Nat) : Int) := by
    rw [Rat.num_mkRat, if_neg (by omega), md_cop (y := y) hs, Nat.gcd_comm, Int.mul_ediv_assoc s (Int.natCast_dvd_natCast.mpr (Nat.gcd_dvd_left x y)), Int.natCast_ediv]
  have e2 : (mkRat (s * x) y).den = y / Nat.gcd x y := by
    rw [Rat.den_mkRat, if_neg (by omega), md_cop (y := y) hs, Nat.gcd_comm]
  have h3 : 0 < x / Nat.gcd x y := Nat.div_pos (Nat.gcd_le_left y hx) hg
  refine ⟨by rw [e1]; exact md_cop (y := y) hs, e2, ?_⟩
  rw [e1, Int.sign_mul]
  have h4 : (((x / Nat.gcd x y : Nat) : Int)).sign = 1 := Int.sign_eq_one_of_pos (by omega)
  rw [h4]
  rcases hs with h | h <;> subst h <;> rfl
theorem md_sg {x : Rat} : x.num.sign = 1 ∨ x.num.sign = 0 ∨ x.num.sign = -1 := by
  rcases Int.lt_trichotomy x.num 0 with h | h | h
  · exact Or.inr (Or.inr (Int.sign_eq_neg_one_of_neg h))
  · rw [h]; exact Or.inr (Or.inl rfl)
  · exact Or.inl (Int.sign_eq_one_of_pos h)
theorem md_sg0 {x : Rat} : x.num.sign = 0 ↔ x = 0 := by
  rw [Int.sign_eq_zero_iff_zero]
  exact Rat.num_eq_zero
theorem md_abs (x : Rat) : x.num = x.num.sign * (x.num.natAbs : Int) := (Int.sign_mul_natAbs x.num).symm
theorem md_mul (a b : Rat) : mkRat (a.num.sign * b.num.sign * ((a.num.natAbs * b.num.natAbs : Nat) : Int)) (a.den * b.den) = a * b := by
  rw [Rat.mul_def']
  congr 1
  rw [Int.natCast_mul]
  have h1 := md_abs a
  have h2 := md_abs b
  generalize a.num.sign = s at *
  generalize b.num.sign = t at *
  generalize (a.num.natAbs : Int) = u at *
  generalize (b.num.natAbs : Int) = w at *
  rw [h1, h2]
  grind
theorem md_add (a b : Rat) (t : Int) : mkRat (a.num.sign * ((a.num.natAbs * b.den : Nat) : Int) + b.num.sign * t * ((b.num.natAbs * a.den : Nat) : Int)) (a.den * b.den) = a + (t : Rat) * b := by
  have e : a + (t : Rat) * b = mkRat (a.num * b.den + t * b.num * a.den) (a.den * b.den) := by
    rw [Rat.mkRat_eq_div]
    have ha : a = (a.num : Rat) / (a.den : Rat) := by rw [← Rat.mkRat_eq_div, Rat.mkRat_self]
    have hb : b = (b.num : Rat) / (b.den : Rat) := by rw [← Rat.mkRat_eq_div, Rat.mkRat_self]
    have h1 : ((a.den : Nat) : Rat) ≠ 0 := by exact_mod_cast a.den_nz
    have h2 : ((b.den : Nat) : Rat) ≠ 0 := by exact_mod_cast b.den_nz
    have e1 : ((a.num * b.den + t * b.num * a.den : Int) : Rat) = (a.num : Rat) * (b.den : Rat) + (t : Rat) * (b.num : Rat) * (a.den : Rat) := by push_cast; rfl
    have e2 : ((a.den * b.den : Nat) : Rat) = (a.den : Rat) * (b.den : Rat) := by push_cast; rfl
    rw [e1, e2]
    generalize (a.num : Rat) = p at *
    generalize (b.num : Rat) = q at *
    generalize ((a.den : Nat) : Rat) = r at *
    generalize ((b.den : Nat) : Rat) = s at *
    subst ha
    subst hb
    grind
  rw [e]
  congr 1
  rw [Int.natCast_mul, Int.natCast_mul]
  have h1 := md_abs a
  have h2 := md_abs b
  generalize a.num.sign = s at *
  generalize b.num.sign = w at *
  generalize (a.num.natAbs : Int) = u at *
  generalize (b.num.natAbs : Int) = v at *
  rw [h1, h2]
  grind
theorem md_div (a b : Rat) (hb0 : b ≠ 0) : mkRat (a.num.sign * b.num.sign * ((a.num.natAbs * b.den : Nat) : Int)) (a.den * b.num.natAbs) = a / b := by
  rw [Rat.mkRat_eq_div]
  have ha : a = (a.num : Rat) / (a.den : Rat) := by rw [← Rat.mkRat_eq_div, Rat.mkRat_self]
  have hb : b = (b.num : Rat) / (b.den : Rat) := by rw [← Rat.mkRat_eq_div, Rat.mkRat_self]
  have h1 : ((a.den : Nat) : Rat) ≠ 0 := by exact_mod_cast a.den_nz
  have h2 : ((b.den : Nat) : Rat) ≠ 0 := by exact_mod_cast b.den_nz
  have hs : ((b.num.sign : Int) : Rat) * ((b.num.sign : Int) : Rat) = 1 := by
    have : b.num.sign * b.num.sign = 1 := by
      rcases md_sg (x := b) with h | h | h
      · rw [h]; rfl
      · exact absurd (md_sg0.mp h) hb0
      · rw [h]; rfl
    exact_mod_cast congrArg (fun z : Int => (z : Rat)) this
  have q1 : (a.num : Rat) = ((a.num.sign : Int) : Rat) * ((a.num.natAbs : Nat) : Rat) := by
    have h9 : (a.num : Rat) = ((a.num.sign * (a.num.natAbs : Int) : Int) : Rat) := congrArg (fun z : Int => (z : Rat)) (md_abs a)
    rw [h9, Rat.intCast_mul, Rat.intCast_natCast]
  have q2 : (b.num : Rat) = ((b.num.sign : Int) : Rat) * ((b.num.natAbs : Nat) : Rat) := by
    have h9 : (b.num : Rat) = ((b.num.sign * (b.num.natAbs : Int) : Int) : Rat) := congrArg (fun z : Int => (z : Rat)) (md_abs b)
    rw [h9, Rat.intCast_mul, Rat.intCast_natCast]
  have e1 : ((a.num.sign * b.num.sign * ((a.num.natAbs * b.den : Nat) : Int) : Int) : Rat) = ((a.num.sign : Int) : Rat) * ((b.num.sign : Int) : Rat) * (((a.num.natAbs : Nat) : Rat) * (b.den : Rat)) := by push_cast; rfl
  have e2 : ((a.den * b.num.natAbs : Nat) : Rat) = (a.den : Rat) * (b.num.natAbs : Rat) := by push_cast; rfl
  have h3 : ((b.num.natAbs : Nat) : Rat) ≠ 0 := by
    intro h
    have : b.num.natAbs = 0 := by exact_mod_cast h
    exact hb0 (Rat.num_eq_zero.mp (Int.natAbs_eq_zero.mp this))
  rw [e1, e2]
  generalize (a.num : Rat) = p at *
  generalize (b.num : Rat) = q at *
  generalize ((a.den : Nat) : Rat) = r at *
  generalize ((b.den : Nat) : Rat) = s at *
  generalize ((a.num.sign : Int) : Rat) = u at *
  generalize ((b.num.sign : Int) : Rat) = w at *
  generalize ((a.num.natAbs : Nat) : Rat) = x at *
  generalize ((b.num.natAbs : Nat) : Rat) = y at *
  subst q1
  subst q2
  subst ha
  subst hb
  grind

theorem mdC_w {s : Nat} (h : 170 ≤ s) : 1200 ≤ mdC s := by unfold mdC; split <;> omega
theorem md_zero_n (F Ln : Nat → Int) (r : Nat) : md_n F (zu Ln r 0) r 0 := ⟨0, zu_s _ _ _, Nat.zero_le _, fun i hi => absurd hi (Nat.not_lt_zero i), fun q => absurd q (Nat.lt_irrefl 0), rfl⟩
theorem md_len0 {F Ln : Nat → Int} {s : Nat} {v : Int} (h : md_n F Ln s v) : ∃ k : Nat, Ln s = (k : Int) ∧ k ≤ mdC s ∧ (v = 0 ↔ k = 0) := by
  obtain ⟨k, h1, h2⟩ := h
  exact ⟨k, h1, h2.1, hx_ok_zero h2⟩
set_option maxHeartbeats 4000000 in
set_option maxRecDepth 100000 in
/-- Model.divisor -/
theorem c_mdivisor (l : Launch) (D : va_G) (cI cJ cE cF cR : ClassId) (mo fg le sg tp bl pr rs : Nat) (n dn sv rk tn ms th : Int) (x y a9 : Nat) (F Ln T0 B0 : Nat → Int) (ha9 : a9 ≤ 1200) (hn1 : md_n F Ln 184 (x : Int)) (hn2 : md_n F Ln 185 (y : Int)) (hb1 : (x : Int) < hx_p a9) (hb2 : (y : Int) < hx_p a9) : Cv l D (zty cI cJ cE cF cR) yX11_divisor wsX11_divisor (zRm 5 140) 0 0 [.ref (mo), .int (iZ (((184 : Nat) : Int))), .int (iZ (((185 : Nat) : Int)))] [(mo, mo_ fg le sg tp bl pr rs (n) (dn) (sv) (rk) (tn) (ms) (th)), (fg, aI cI (52200) (F)), (le, aI cI (190) (Ln)), (tp, aI cI (1300) (T0)), (bl, aI cI (1300) (B0))] (fun w1 => ∃ (G L1 T1 B1 : Nat → Int), w1 = [(mo, mo_ fg le sg tp bl pr rs (n) (dn) (sv) (rk) (tn) (ms) (th)), (fg, aI cI (52200) (G)), (le, aI cI (190) (L1)), (tp, aI cI (1300) (T1)), (bl, aI cI (1300) (B1))] ∧ (∀ s : Nat, s < 188 → (s < 180 ∨ 183 < s) → md_e F Ln G L1 s) ∧ md_n G L1 180 ((Nat.gcd x y : Nat) : Int)) := by
  unfold Cv
  refine zs (Qc := zQv D _ _) (cc := cX11_divisor) (maxL := 3) (ret := none) (by decide) rfl (Nat.le_of_ble_eq_true rfl) ?_
  intro zp ze s zm below meth zc ls A args Q hQ hx hb hr hts hown hlk hml hnm hN hA hK hP hD hS hl
  have q_f_RX11_14_LimbSolverModel_length_I := hts (.fieldLink RX11 14 "LimbSolverModel" "length" "[I") (by decide +kernel)
  have hin11 : ∀ w ∈ wsX110, w ∈ wsX11_divisor := by decide +kernel
  have hl : lv_has ls 3 [(0, .ref (mo)), (1, .int (iZ (((184 : Nat) : Int)))), (2, .int (iZ (((185 : Nat) : Int))))] := hl
  have lp : ∀ (t : Nat) (g : Nat) (h : Nat) (G : Nat → Int) (L1 : Nat → Int) (T1 : Nat → Int) (B1 : Nat → Int) (H : Heap) (locs : List Loc) (ls : Array Slot), (h ≤ t) → (∀ s : Nat, s < 188 → (s < 180 ∨ 183 < s) → md_e F Ln G L1 s) → (md_n G L1 180 ((g : Nat) : Int)) → (md_n G L1 181 ((h : Nat) : Int)) → (Nat.gcd g h = Nat.gcd x y) → (((g : Nat) : Int) < hx_p a9) → (((h : Nat) : Int) < hx_p a9) →  va_P D vwCl [(mo, mo_ fg le sg tp bl pr rs (n) (dn) (sv) (rk) (tn) (ms) (th)), (fg, aI cI (52200) (G)), (le, aI cI (190) (L1)), (tp, aI cI (1300) (T1)), (bl, aI cI (1300) (B1))] H → va_D A [(mo, mo_ fg le sg tp bl pr rs (n) (dn) (sv) (rk) (tn) (ms) (th)), (fg, aI cI (52200) (G)), (le, aI cI (190) (L1)), (tp, aI cI (1300) (T1)), (bl, aI cI (1300) (B1))] → va_S A s.heap H locs → lv_has ls 3 [(0, .ref (mo)), (1, .int (iZ (((184 : Nat) : Int)))), (2, .int (iZ (((185 : Nat) : Int))))] → W zp l ze (zRm 5 140) s zm args below meth zc H locs 0 0 Q (F0 zm 16 ls []) := by
    intro t
    induction t with
    | zero =>
      intro g h G L1 T1 B1 H locs ls hht hke hng hnh hgc hgb hhb hP hD hS hl
      obtain ⟨kh, hLh, hkc, hkz⟩ := md_len0 hnh
      have hkc2 := mdC_b 181
      refine lv_aload_n hx hb dX11_divisor_16 rfl (lv_at hl 0 rfl) ?_
      refine va_get (D := D) (ci := 11) (v := .ref (le)) (C := RX11) (T := TX11) (N := 14) hx hb hts hin11 hown hK hP 0 rfl rfl 1 (by decide) q_f_RX11_14_LimbSolverModel_length_I (fun _ h9 => h9) rfl dX11_divisor_17 ?_
      refine lv_sipush (v := iZ 181) hx hb dX11_divisor_20 (by decide) ?_
      refine zr_iald hx hb hK hP 2 0 rfl rfl (181) (by omega) (by omega) (by omega) dX11_divisor_23 ?_
      refine zr_eqi ((kh : Nat) : Int) hLh ?_
      refine zr_if_le hx hb 66 ⟨by omega, by omega⟩ dX11_divisor_24 (by decide) (fun h_24 => ?_) (fun h_24 => ?_)
      · exact zr_vret hQ hx hb hr hlk dX11_divisor_66 hK hP hD hS (by omega) (by omega) (⟨G, L1, T1, B1, rfl, hke, by rw [← hgc, show h = 0 by omega, Nat.gcd_zero_right]; exact hng⟩)
      · exfalso; omega
    | succ t ih =>
      intro g h G L1 T1 B1 H locs ls hht hke hng hnh hgc hgb hhb hP hD hS hl
      obtain ⟨kh, hLh, hkc, hkz⟩ := md_len0 hnh
      have hkc2 := mdC_b 181
      refine lv_aload_n hx hb dX11_divisor_16 rfl (lv_at hl 0 rfl) ?_
      refine va_get (D := D) (ci := 11) (v := .ref (le)) (C := RX11) (T := TX11) (N := 14) hx hb hts hin11 hown hK hP 0 rfl rfl 1 (by decide) q_f_RX11_14_LimbSolverModel_length_I (fun _ h9 => h9) rfl dX11_divisor_17 ?_
      refine lv_sipush (v := iZ 181) hx hb dX11_divisor_20 (by decide) ?_
      refine zr_eqi (((181 : Nat) : Int)) (by rfl) ?_
      refine zr_iald hx hb hK hP 2 0 rfl rfl (181) (by omega) (by omega) (by omega) dX11_divisor_23 ?_
      refine zr_eqi ((kh : Nat) : Int) hLh ?_
      refine zr_if_le hx hb 66 ⟨by omega, by omega⟩ dX11_divisor_24 (by decide) (fun h_24 => ?_) (fun h_24 => ?_)
      · exact zr_vret hQ hx hb hr hlk dX11_divisor_66 hK hP hD hS (by omega) (by omega) (⟨G, L1, T1, B1, rfl, hke, by rw [← hgc, show h = 0 by omega, Nat.gcd_zero_right]; exact hng⟩)
      · refine lv_aload_n hx hb dX11_divisor_27 rfl (lv_at hl 0 rfl) ?_
        refine lv_sipush (v := iZ 182) hx hb dX11_divisor_28 (by decide) ?_
        refine zr_eqi (((182 : Nat) : Int)) (by rfl) ?_
        refine lv_sipush (v := iZ 183) hx hb dX11_divisor_31 (by decide) ?_
        refine zr_eqi (((183 : Nat) : Int)) (by rfl) ?_
        refine lv_sipush (v := iZ 180) hx hb dX11_divisor_34 (by decide) ?_
        refine zr_eqi (((180 : Nat) : Int)) (by rfl) ?_
        refine lv_sipush (v := iZ 181) hx hb dX11_divisor_37 (by decide) ?_
        refine zr_eqi (((181 : Nat) : Int)) (by rfl) ?_
        refine zc_Vv (As := [.int (iZ (((182 : Nat) : Int))), .int (iZ (((183 : Nat) : Int))), .int (iZ (((180 : Nat) : Int))), .int (iZ (((181 : Nat) : Int)))]) (rest := []) (wr := []) ⟨hx, hb, hml, hown, hts⟩ (c_mdivide l D cI cJ cE cF cR mo fg le sg tp bl pr rs n dn sv rk tn ms th 182 183 180 181 a9 a9 G L1 T1 B1 (((g : Nat) : Int)) (((h : Nat) : Int)) (by decide) (by decide) (by decide) (by decide) (by decide) (by decide) (hng) (hnh) hgb hhb (Nat.le_trans ha9 (mdC_w (by decide))) (Nat.le_trans ha9 (mdC_w (by decide))) (by omega)) (cwV 4 hts gX11_divisor_X11_divide rfl rfl rfl (by decide +kernel) ⟨Nat.le_of_ble_eq_true rfl, Nat.le_of_ble_eq_true rfl⟩) hN hK hP hD hS hA [0, 1, 2, 3, 4] [] rfl rfl (by decide) (by decide) (by decide) (q0 := 0) (ci := 11) rfl rfl rfl rfl hl.1 (Nat.le_of_ble_eq_true rfl) dX11_divisor_40 ⟨by decide, by decide⟩ (fun w1 H locs hp hP hD hS => ?_)
        obtain ⟨G2, L2, T2, B2, hw9, ⟨hk2, hq2, hr2⟩⟩ := hp
        subst hw9
        rw [← Int.natCast_emod] at hr2
        have hml9 := Nat.mod_lt g (show 0 < h by omega)
        have hP := hP.sub (ws' := [(mo, mo_ fg le sg tp bl pr rs (n) (dn) (sv) (rk) (tn) (ms) (th)), (fg, aI cI (52200) (G2)), (le, aI cI (190) (L2)), (tp, aI cI (1300) (T2)), (bl, aI cI (1300) (B2))]) [0, 1, 2, 3, 4] rfl
        have hD := hD.sub (ws' := [(mo, mo_ fg le sg tp bl pr rs (n) (dn) (sv) (rk) (tn) (ms) (th)), (fg, aI cI (52200) (G2)), (le, aI cI (190) (L2)), (tp, aI cI (1300) (T2)), (bl, aI cI (1300) (B2))]) [0, 1, 2, 3, 4] (by decide) rfl
        refine lv_aload_n hx hb dX11_divisor_43 rfl (lv_at hl 0 rfl) ?_
        refine lv_sipush (v := iZ 180) hx hb dX11_divisor_44 (by decide) ?_
        refine zr_eqi (((180 : Nat) : Int)) (by rfl) ?_
        refine lv_sipush (v := iZ 181) hx hb dX11_divisor_47 (by decide) ?_
        refine zr_eqi (((181 : Nat) : Int)) (by rfl) ?_
        refine zc_Vv (As := [.int (iZ (((180 : Nat) : Int))), .int (iZ (((181 : Nat) : Int)))]) (rest := []) (wr := [(tp, aI cI (1300) (T2)), (bl, aI cI (1300) (B2))]) ⟨hx, hb, hml, hown, hts⟩ (c_mcopy l D cI cJ cE cF cR mo fg le sg tp bl pr rs n dn sv rk tn ms th 180 181 a9 G2 L2 (((h : Nat) : Int)) (by decide) (by decide) (by decide) ((hk2 181 (by decide) (by decide) (by decide)).n hnh) hhb (Nat.le_trans ha9 (mdC_w (by decide)))) (cwV 2 hts gX11_divisor_X11_copy rfl rfl rfl (by decide +kernel) ⟨Nat.le_of_ble_eq_true rfl, Nat.le_of_ble_eq_true rfl⟩) hN hK hP hD hS hA [0, 1, 2] [3, 4] rfl rfl (by decide) (by decide) (by decide) (q0 := 0) (ci := 11) rfl rfl rfl rfl hl.1 (Nat.le_of_ble_eq_true rfl) dX11_divisor_50 ⟨by decide, by decide⟩ (fun w1 H locs hp hP hD hS => ?_)
        obtain ⟨G3, L3, hw9, hG3⟩ := hp
        subst hw9
        have hP := hP.sub (ws' := [(mo, mo_ fg le sg tp bl pr rs (n) (dn) (sv) (rk) (tn) (ms) (th)), (fg, aI cI (52200) (G3)), (le, aI cI (190) (L3)), (tp, aI cI (1300) (T2)), (bl, aI cI (1300) (B2))]) [2, 3, 4, 0, 1] rfl
        have hD := hD.sub (ws' := [(mo, mo_ fg le sg tp bl pr rs (n) (dn) (sv) (rk) (tn) (ms) (th)), (fg, aI cI (52200) (G3)), (le, aI cI (190) (L3)), (tp, aI cI (1300) (T2)), (bl, aI cI (1300) (B2))]) [2, 3, 4, 0, 1] (by decide) rfl
        refine lv_aload_n hx hb dX11_divisor_53 rfl (lv_at hl 0 rfl) ?_
        refine lv_sipush (v := iZ 181) hx hb dX11_divisor_54 (by decide) ?_
        refine zr_eqi (((181 : Nat) : Int)) (by rfl) ?_
        refine lv_sipush (v := iZ 183) hx hb dX11_divisor_57 (by decide) ?_
        refine zr_eqi (((183 : Nat) : Int)) (by rfl) ?_
        refine zc_Vv (As := [.int (iZ (((181 : Nat) : Int))), .int (iZ (((183 : Nat) : Int)))]) (rest := []) (wr := [(tp, aI cI (1300) (T2)), (bl, aI cI (1300) (B2))]) ⟨hx, hb, hml, hown, hts⟩ (c_mcopy l D cI cJ cE cF cR mo fg le sg tp bl pr rs n dn sv rk tn ms th 181 183 a9 G3 L3 (((g % h : Nat) : Int)) (by decide) (by decide) (by decide) ((hG3.1 183 (by decide) (by decide)).n hr2) (by omega) (Nat.le_trans ha9 (mdC_w (by decide)))) (cwV 2 hts gX11_divisor_X11_copy rfl rfl rfl (by decide +kernel) ⟨Nat.le_of_ble_eq_true rfl, Nat.le_of_ble_eq_true rfl⟩) hN hK hP hD hS hA [0, 1, 2] [3, 4] rfl rfl (by decide) (by decide) (by decide) (q0 := 0) (ci := 11) rfl rfl rfl rfl hl.1 (Nat.le_of_ble_eq_true rfl) dX11_divisor_60 ⟨by decide, by decide⟩ (fun w1 H locs hp hP hD hS => ?_)
        obtain ⟨G4, L4, hw9, hG4⟩ := hp
        subst hw9
        have hP := hP.sub (ws' := [(mo, mo_ fg le sg tp bl pr rs (n) (dn) (sv) (rk) (tn) (ms) (th)), (fg, aI cI (52200) (G4)), (le, aI cI (190) (L4)), (tp, aI cI (1300) (T2)), (bl, aI cI (1300) (B2))]) [2, 3, 4, 0, 1] rfl
        have hD := hD.sub (ws' := [(mo, mo_ fg le sg tp bl pr rs (n) (dn) (sv) (rk) (tn) (ms) (th)), (fg, aI cI (52200) (G4)), (le, aI cI (190) (L4)), (tp, aI cI (1300) (T2)), (bl, aI cI (1300) (B2))]) [2, 3, 4, 0, 1] (by decide) rfl
        refine lv_goto (tgt := 16) hx hb dX11_divisor_63 (by decide) ?_
        exact ih h (g % h) G4 L4 T2 B2 H locs ls (by omega) (fun s h1 h2 => (((hke s h1 h2).trans (hk2 s h1 (by omega) (by omega))).trans (hG3.1 s h1 (by omega))).trans (hG4.1 s h1 (by omega))) ((hG4.1 180 (by decide) (by decide)).n hG3.2) hG4.2 (by rw [← hgc, Nat.gcd_comm g h, Nat.gcd_rec h g, Nat.gcd_comm]) hhb (by omega) hP hD hS (lv_sub hl [0, 1, 2] rfl)
  refine lv_aload_n hx hb dX11_divisor_0 rfl (lv_at hl 0 rfl) ?_
  refine lv_sipush (v := iZ 180) hx hb dX11_divisor_1 (by decide) ?_
  refine zr_eqi (((180 : Nat) : Int)) (by rfl) ?_
  refine lv_iload_n hx hb dX11_divisor_4 rfl (lv_at hl 1 rfl) ?_
  refine zc_Vv (As := [.int (iZ (((180 : Nat) : Int))), .int (iZ (((184 : Nat) : Int)))]) (rest := []) (wr := [(tp, aI cI (1300) (T0)), (bl, aI cI (1300) (B0))]) ⟨hx, hb, hml, hown, hts⟩ (c_mcopy l D cI cJ cE cF cR mo fg le sg tp bl pr rs n dn sv rk tn ms th 180 184 a9 F Ln (((x : Nat) : Int)) (by decide) (by decide) (by decide) (hn1) hb1 (Nat.le_trans ha9 (mdC_w (by decide)))) (cwV 2 hts gX11_divisor_X11_copy rfl rfl rfl (by decide +kernel) ⟨Nat.le_of_ble_eq_true rfl, Nat.le_of_ble_eq_true rfl⟩) hN hK hP hD hS hA [0, 1, 2] [3, 4] rfl rfl (by decide) (by decide) (by decide) (q0 := 0) (ci := 11) rfl rfl rfl rfl hl.1 (Nat.le_of_ble_eq_true rfl) dX11_divisor_5 ⟨by decide, by decide⟩ (fun w1 H locs hp hP hD hS => ?_)
  obtain ⟨G3, L3, hw9, hG3⟩ := hp
  subst hw9
  have hP := hP.sub (ws' := [(mo, mo_ fg le sg tp bl pr rs (n) (dn) (sv) (rk) (tn) (ms) (th)), (fg, aI cI (52200) (G3)), (le, aI cI (190) (L3)), (tp, aI cI (1300) (T0)), (bl, aI cI (1300) (B0))]) [2, 3, 4, 0, 1] rfl
  have hD := hD.sub (ws' := [(mo, mo_ fg le sg tp bl pr rs (n) (dn) (sv) (rk) (tn) (ms) (th)), (fg, aI cI (52200) (G3)), (le, aI cI (190) (L3)), (tp, aI cI (1300) (T0)), (bl, aI cI (1300) (B0))]) [2, 3, 4, 0, 1] (by decide) rfl
  refine lv_aload_n hx hb dX11_divisor_8 rfl (lv_at hl 0 rfl) ?_
  refine lv_sipush (v := iZ 181) hx hb dX11_divisor_9 (by decide) ?_
  refine zr_eqi (((181 : Nat) : Int)) (by rfl) ?_
  refine lv_iload_n hx hb dX11_divisor_12 rfl (lv_at hl 2 rfl) ?_
  refine zc_Vv (As := [.int (iZ (((181 : Nat) : Int))), .int (iZ (((185 : Nat) : Int)))]) (rest := []) (wr := [(tp, aI cI (1300) (T0)), (bl, aI cI (1300) (B0))]) ⟨hx, hb, hml, hown, hts⟩ (c_mcopy l D cI cJ cE cF cR mo fg le sg tp bl pr rs n dn sv rk tn ms th 181 185 a9 G3 L3 (((y : Nat) : Int)) (by decide) (by decide) (by decide) ((hG3.1 185 (by decide) (by decide)).n hn2) hb2 (Nat.le_trans ha9 (mdC_w (by decide)))) (cwV 2 hts gX11_divisor_X11_copy rfl rfl rfl (by decide +kernel) ⟨Nat.le_of_ble_eq_true rfl, Nat.le_of_ble_eq_true rfl⟩) hN hK hP hD hS hA [0, 1, 2] [3, 4] rfl rfl (by decide) (by decide) (by decide) (q0 := 0) (ci := 11) rfl rfl rfl rfl hl.1 (Nat.le_of_ble_eq_true rfl) dX11_divisor_13 ⟨by decide, by decide⟩ (fun w1 H locs hp hP hD hS => ?_)
  obtain ⟨G4, L4, hw9, hG4⟩ := hp
  subst hw9
  have hP := hP.sub (ws' := [(mo, mo_ fg le sg tp bl pr rs (n) (dn) (sv) (rk) (tn) (ms) (th)), (fg, aI cI (52200) (G4)), (le, aI cI (190) (L4)), (tp, aI cI (1300) (T0)), (bl, aI cI (1300) (B0))]) [2, 3, 4, 0, 1] rfl
  have hD := hD.sub (ws' := [(mo, mo_ fg le sg tp bl pr rs (n) (dn) (sv) (rk) (tn) (ms) (th)), (fg, aI cI (52200) (G4)), (le, aI cI (190) (L4)), (tp, aI cI (1300) (T0)), (bl, aI cI (1300) (B0))]) [2, 3, 4, 0, 1] (by decide) rfl
  exact lp y x y G4 L4 T0 B0 H locs ls (Nat.le_refl y) (fun s h1 h2 => (hG3.1 s h1 (by omega)).trans (hG4.1 s h1 (by omega))) ((hG4.1 180 (by decide) (by decide)).n hG3.2) hG4.2 rfl hb1 hb2 hP hD hS (lv_sub hl [0, 1, 2] rfl)

set_option maxHeartbeats 4000000 in
set_option maxRecDepth 100000 in
/-- Model.zero -/
theorem c_mzero (l : Launch) (D : va_G) (cI cJ cE cF cR : ClassId) (mo fg le sg tp bl pr rs : Nat) (n dn sv rk tn ms th : Int) (f : Nat) (F Ln Sg : Nat → Int) (hf : f < 90) : Cv l D (zty cI cJ cE cF cR) yX11_zero wsX11_zero (zRm 2 50) 0 0 [.ref (mo), .int (iZ (((f : Nat) : Int)))] [(mo, mo_ fg le sg tp bl pr rs (n) (dn) (sv) (rk) (tn) (ms) (th)), (fg, aI cI (52200) (F)), (le, aI cI (190) (Ln)), (sg, aI cI (90) (Sg))] (fun w1 => ∃ (G L1 S1 : Nat → Int), w1 = [(mo, mo_ fg le sg tp bl pr rs (n) (dn) (sv) (rk) (tn) (ms) (th)), (fg, aI cI (52200) (G)), (le, aI cI (190) (L1)), (sg, aI cI (90) (S1))] ∧ (∀ g : Nat, g < 90 → g ≠ f → md_ef F Ln Sg G L1 S1 g) ∧ md_f G L1 S1 f 0) := by
  unfold Cv
  refine zs (Qc := zQv D _ _) (cc := cX11_zero) (maxL := 2) (ret := none) (by decide) rfl (Nat.le_of_ble_eq_true rfl) ?_
  intro zp ze s zm below meth zc ls A args Q hQ hx hb hr hts hown hlk hml hnm hN hA hK hP hD hS hl
  have q_f_RX11_17_LimbSolverModel_sign_I := hts (.fieldLink RX11 17 "LimbSolverModel" "sign" "[I") (by decide +kernel)
  have hin11 : ∀ w ∈ wsX110, w ∈ wsX11_zero := by decide +kernel
  have q_f_RX11_14_LimbSolverModel_length_I := hts (.fieldLink RX11 14 "LimbSolverModel" "length" "[I") (by decide +kernel)
  have hl : lv_has ls 2 [(0, .ref (mo)), (1, .int (iZ (((f : Nat) : Int))))] := hl
  refine lv_aload_n hx hb dX11_zero_0 rfl (lv_at hl 0 rfl) ?_
  refine va_get (D := D) (ci := 11) (v := .ref (sg)) (C := RX11) (T := TX11) (N := 14) hx hb hts hin11 hown hK hP 0 rfl rfl 2 (by decide) q_f_RX11_17_LimbSolverModel_sign_I (fun _ h9 => h9) rfl dX11_zero_1 ?_
  refine lv_iload_n hx hb dX11_zero_4 rfl (lv_at hl 1 rfl) ?_
  refine lv_iconst (v := iZ 0) hx hb dX11_zero_5 rfl ?_
  refine zr_iast hx hb hK hP hD hS 3 0 rfl rfl (f) (by omega) (by omega) (by omega) dX11_zero_6 (fun H locs hP hD hS => ?_)
  have hP : va_P D vwCl [(mo, mo_ fg le sg tp bl pr rs (n) (dn) (sv) (rk) (tn) (ms) (th)), (fg, aI cI (52200) (F)), (le, aI cI (190) (Ln)), (sg, aI cI (90) (zu (Sg) (f) (0)))] H := hP
  have hD : va_D A [(mo, mo_ fg le sg tp bl pr rs (n) (dn) (sv) (rk) (tn) (ms) (th)), (fg, aI cI (52200) (F)), (le, aI cI (190) (Ln)), (sg, aI cI (90) (zu (Sg) (f) (0)))] := hD
  refine lv_aload_n hx hb dX11_zero_7 rfl (lv_at hl 0 rfl) ?_
  refine va_get (D := D) (ci := 11) (v := .ref (le)) (C := RX11) (T := TX11) (N := 14) hx hb hts hin11 hown hK hP 0 rfl rfl 1 (by decide) q_f_RX11_14_LimbSolverModel_length_I (fun _ h9 => h9) rfl dX11_zero_8 ?_
  refine lv_iconst (v := iZ 2) hx hb dX11_zero_11 rfl ?_
  refine lv_iload_n hx hb dX11_zero_12 rfl (lv_at hl 1 rfl) ?_
  refine zr_imul hx hb dX11_zero_13 ?_
  refine lv_iconst (v := iZ 0) hx hb dX11_zero_14 rfl ?_
  refine zr_iast hx hb hK hP hD hS 2 0 rfl rfl (2 * f) (by omega) (by omega) (by omega) dX11_zero_15 (fun H locs hP hD hS => ?_)
  have hP : va_P D vwCl [(mo, mo_ fg le sg tp bl pr rs (n) (dn) (sv) (rk) (tn) (ms) (th)), (fg, aI cI (52200) (F)), (le, aI cI (190) (zu (Ln) (2 * f) (0))), (sg, aI cI (90) (zu (Sg) (f) (0)))] H := hP
  have hD : va_D A [(mo, mo_ fg le sg tp bl pr rs (n) (dn) (sv) (rk) (tn) (ms) (th)), (fg, aI cI (52200) (F)), (le, aI cI (190) (zu (Ln) (2 * f) (0))), (sg, aI cI (90) (zu (Sg) (f) (0)))] := hD
  refine lv_aload_n hx hb dX11_zero_16 rfl (lv_at hl 0 rfl) ?_
  refine lv_iconst (v := iZ 2) hx hb dX11_zero_17 rfl ?_
  refine lv_iload_n hx hb dX11_zero_18 rfl (lv_at hl 1 rfl) ?_
  refine zr_imul hx hb dX11_zero_19 ?_
  refine lv_iconst (v := iZ 1) hx hb dX11_zero_20 rfl ?_
  refine zr_iadd hx hb dX11_zero_21 ?_
  refine zr_eqi (((2 * f + 1 : Nat) : Int)) (by omega) ?_
  refine lv_lconst (v := lZ 1) hx hb dX11_zero_22 rfl ?_
  refine zc_Vv (As := [.int (iZ (((2 * f + 1 : Nat) : Int))), .long (lZ (1))]) (rest := []) (wr := [(sg, aI cI (90) (zu (Sg) (f) (0)))]) ⟨hx, hb, hml, hown, hts⟩ (c_mput l D cI cJ cE cF cR mo fg le sg tp bl pr rs n dn sv rk tn ms th (2 * f + 1) F (zu Ln (2 * f) 0) 1 (by omega) (by decide)) (cwV 2 hts gX11_zero_X11_put rfl rfl rfl (by decide +kernel) ⟨Nat.le_of_ble_eq_true rfl, Nat.le_of_ble_eq_true rfl⟩) hN hK hP hD hS hA [0, 1, 2] [3] rfl rfl (by decide) (by decide) (by decide) (q0 := 0) (ci := 11) rfl rfl rfl rfl hl.1 (Nat.le_of_ble_eq_true rfl) dX11_zero_23 ⟨by decide, by decide⟩ (fun w1 H locs hp hP hD hS => ?_)
  obtain ⟨G, L1, hw9, hG⟩ := hp
  subst hw9
  have hP := hP.sub (ws' := [(mo, mo_ fg le sg tp bl pr rs (n) (dn) (sv) (rk) (tn) (ms) (th)), (fg, aI cI (52200) (G)), (le, aI cI (190) (L1)), (sg, aI cI (90) (zu (Sg) (f) (0)))]) [1, 2, 3, 0] rfl
  have hD := hD.sub (ws' := [(mo, mo_ fg le sg tp bl pr rs (n) (dn) (sv) (rk) (tn) (ms) (th)), (fg, aI cI (52200) (G)), (le, aI cI (190) (L1)), (sg, aI cI (90) (zu (Sg) (f) (0)))]) [1, 2, 3, 0] (by decide) rfl
  exact zr_vret hQ hx hb hr hlk dX11_zero_26 hK hP hD hS (by omega) (by omega) (⟨G, L1, _, rfl, fun g h1 h2 => ⟨(md_off.e (md_off_refl F (2 * f)) (by omega)).trans (hG.1 _ (by omega) (by omega)), (md_off.e (md_off_refl F (2 * f)) (by omega)).trans (hG.1 _ (by omega) (by omega)), zu_n Sg _ h2⟩, zu_s _ _ _, (hG.1 _ (by omega) (by omega)).n (md_zero_n F Ln (2 * f)), hG.2⟩)

set_option maxHeartbeats 4000000 in
set_option maxRecDepth 100000 in
/-- Model.assign -/
theorem c_massign (l : Launch) (D : va_G) (cI cJ cE cF cR : ClassId) (mo fg le sg tp bl pr rs : Nat) (n dn sv rk tn ms th : Int) (f o9 a9 : Nat) (F Ln Sg : Nat → Int) (x : Rat) (hf : f < 90) (ho : o9 < 90) (hfo : o9 ≠ f) (hx9 : md_f F Ln Sg o9 x) (hb1 : (x.num.natAbs : Int) < hx_p a9) (hb2 : (x.den : Int) < hx_p a9) (hfa : a9 ≤ mdC (2 * f)) (hfb : a9 ≤ mdC (2 * f + 1)) : Cv l D (zty cI cJ cE cF cR) yX11_assign wsX11_assign (zRm 2 50) 0 0 [.ref (mo), .int (iZ (((f : Nat) : Int))), .int (iZ (((o9 : Nat) : Int)))] [(mo, mo_ fg le sg tp bl pr rs (n) (dn) (sv) (rk) (tn) (ms) (th)), (fg, aI cI (52200) (F)), (le, aI cI (190) (Ln)), (sg, aI cI (90) (Sg))] (fun w1 => ∃ (G L1 S1 : Nat → Int), w1 = [(mo, mo_ fg le sg tp bl pr rs (n) (dn) (sv) (rk) (tn) (ms) (th)), (fg, aI cI (52200) (G)), (le, aI cI (190) (L1)), (sg, aI cI (90) (S1))] ∧ (∀ g : Nat, g < 90 → g ≠ f → md_ef F Ln Sg G L1 S1 g) ∧ md_f G L1 S1 f x) := by
  unfold Cv
  refine zs (Qc := zQv D _ _) (cc := cX11_assign) (maxL := 3) (ret := none) (by decide) rfl (Nat.le_of_ble_eq_true rfl) ?_
  intro zp ze s zm below meth zc ls A args Q hQ hx hb hr hts hown hlk hml hnm hN hA hK hP hD hS hl
  have q_f_RX11_17_LimbSolverModel_sign_I := hts (.fieldLink RX11 17 "LimbSolverModel" "sign" "[I") (by decide +kernel)
  have hin11 : ∀ w ∈ wsX110, w ∈ wsX11_assign := by decide +kernel
  have hl : lv_has ls 3 [(0, .ref (mo)), (1, .int (iZ (((f : Nat) : Int)))), (2, .int (iZ (((o9 : Nat) : Int))))] := hl
  refine lv_aload_n hx hb dX11_assign_0 rfl (lv_at hl 0 rfl) ?_
  refine va_get (D := D) (ci := 11) (v := .ref (sg)) (C := RX11) (T := TX11) (N := 14) hx hb hts hin11 hown hK hP 0 rfl rfl 2 (by decide) q_f_RX11_17_LimbSolverModel_sign_I (fun _ h9 => h9) rfl dX11_assign_1 ?_
  refine lv_iload_n hx hb dX11_assign_4 rfl (lv_at hl 1 rfl) ?_
  refine lv_aload_n hx hb dX11_assign_5 rfl (lv_at hl 0 rfl) ?_
  refine va_get (D := D) (ci := 11) (v := .ref (sg)) (C := RX11) (T := TX11) (N := 14) hx hb hts hin11 hown hK hP 0 rfl rfl 2 (by decide) q_f_RX11_17_LimbSolverModel_sign_I (fun _ h9 => h9) rfl dX11_assign_6 ?_
  refine lv_iload_n hx hb dX11_assign_9 rfl (lv_at hl 2 rfl) ?_
  refine zr_iald hx hb hK hP 3 0 rfl rfl (o9) (by omega) (by omega) (by omega) dX11_assign_10 ?_
  refine zr_iast hx hb hK hP hD hS 3 0 rfl rfl (f) (by omega) (by omega) (by omega) dX11_assign_11 (fun H locs hP hD hS => ?_)
  have hP : va_P D vwCl [(mo, mo_ fg le sg tp bl pr rs (n) (dn) (sv) (rk) (tn) (ms) (th)), (fg, aI cI (52200) (F)), (le, aI cI (190) (Ln)), (sg, aI cI (90) (zu (Sg) (f) ((Sg) (o9))))] H := hP
  have hD : va_D A [(mo, mo_ fg le sg tp bl pr rs (n) (dn) (sv) (rk) (tn) (ms) (th)), (fg, aI cI (52200) (F)), (le, aI cI (190) (Ln)), (sg, aI cI (90) (zu (Sg) (f) ((Sg) (o9))))] := hD
  refine lv_aload_n hx hb dX11_assign_12 rfl (lv_at hl 0 rfl) ?_
  refine lv_iconst (v := iZ 2) hx hb dX11_assign_13 rfl ?_
  refine lv_iload_n hx hb dX11_assign_14 rfl (lv_at hl 1 rfl) ?_
  refine zr_imul hx hb dX11_assign_15 ?_
  refine zr_eqi (((2 * f : Nat) : Int)) (by omega) ?_
  refine lv_iconst (v := iZ 2) hx hb dX11_assign_16 rfl ?_
  refine lv_iload_n hx hb dX11_assign_17 rfl (lv_at hl 2 rfl) ?_
  refine zr_imul hx hb dX11_assign_18 ?_
  refine zr_eqi (((2 * o9 : Nat) : Int)) (by omega) ?_
  refine zc_Vv (As := [.int (iZ (((2 * f : Nat) : Int))), .int (iZ (((2 * o9 : Nat) : Int)))]) (rest := []) (wr := [(sg, aI cI (90) (zu (Sg) (f) ((Sg) (o9))))]) ⟨hx, hb, hml, hown, hts⟩ (c_mcopy l D cI cJ cE cF cR mo fg le sg tp bl pr rs n dn sv rk tn ms th (2 * f) (2 * o9) a9 F Ln ((x.num.natAbs : Int)) (by omega) (by omega) (by omega) (hx9.2.1) hb1 hfa) (cwV 2 hts gX11_assign_X11_copy rfl rfl rfl (by decide +kernel) ⟨Nat.le_of_ble_eq_true rfl, Nat.le_of_ble_eq_true rfl⟩) hN hK hP hD hS hA [0, 1, 2] [3] rfl rfl (by decide) (by decide) (by decide) (q0 := 0) (ci := 11) rfl rfl rfl rfl hl.1 (Nat.le_of_ble_eq_true rfl) dX11_assign_19 ⟨by decide, by decide⟩ (fun w1 H locs hp hP hD hS => ?_)
  obtain ⟨G, L1, hw9, hG⟩ := hp
  subst hw9
  have hP := hP.sub (ws' := [(mo, mo_ fg le sg tp bl pr rs (n) (dn) (sv) (rk) (tn) (ms) (th)), (fg, aI cI (52200) (G)), (le, aI cI (190) (L1)), (sg, aI cI (90) (zu (Sg) (f) ((Sg) (o9))))]) [1, 2, 3, 0] rfl
  have hD := hD.sub (ws' := [(mo, mo_ fg le sg tp bl pr rs (n) (dn) (sv) (rk) (tn) (ms) (th)), (fg, aI cI (52200) (G)), (le, aI cI (190) (L1)), (sg, aI cI (90) (zu (Sg) (f) ((Sg) (o9))))]) [1, 2, 3, 0] (by decide) rfl
  refine lv_aload_n hx hb dX11_assign_22 rfl (lv_at hl 0 rfl) ?_
  refine lv_iconst (v := iZ 2) hx hb dX11_assign_23 rfl ?_
  refine lv_iload_n hx hb dX11_assign_24 rfl (lv_at hl 1 rfl) ?_
  refine zr_imul hx hb dX11_assign_25 ?_
  refine lv_iconst (v := iZ 1) hx hb dX11_assign_26 rfl ?_
  refine zr_iadd hx hb dX11_assign_27 ?_
  refine zr_eqi (((2 * f + 1 : Nat) : Int)) (by omega) ?_
  refine lv_iconst (v := iZ 2) hx hb dX11_assign_28 rfl ?_
  refine lv_iload_n hx hb dX11_assign_29 rfl (lv_at hl 2 rfl) ?_
  refine zr_imul hx hb dX11_assign_30 ?_
  refine lv_iconst (v := iZ 1) hx hb dX11_assign_31 rfl ?_
  refine zr_iadd hx hb dX11_assign_32 ?_
  refine zr_eqi (((2 * o9 + 1 : Nat) : Int)) (by omega) ?_
  refine zc_Vv (As := [.int (iZ (((2 * f + 1 : Nat) : Int))), .int (iZ (((2 * o9 + 1 : Nat) : Int)))]) (rest := []) (wr := [(sg, aI cI (90) (zu (Sg) (f) ((Sg) (o9))))]) ⟨hx, hb, hml, hown, hts⟩ (c_mcopy l D cI cJ cE cF cR mo fg le sg tp bl pr rs n dn sv rk tn ms th (2 * f + 1) (2 * o9 + 1) a9 G L1 ((x.den : Int)) (by omega) (by omega) (by omega) ((hG.1 _ (by omega) (by omega)).n hx9.2.2) hb2 hfb) (cwV 2 hts gX11_assign_X11_copy rfl rfl rfl (by decide +kernel) ⟨Nat.le_of_ble_eq_true rfl, Nat.le_of_ble_eq_true rfl⟩) hN hK hP hD hS hA [0, 1, 2] [3] rfl rfl (by decide) (by decide) (by decide) (q0 := 0) (ci := 11) rfl rfl rfl rfl hl.1 (Nat.le_of_ble_eq_true rfl) dX11_assign_33 ⟨by decide, by decide⟩ (fun w1 H locs hp hP hD hS => ?_)
  obtain ⟨G2, L2, hw9, hG2⟩ := hp
  subst hw9
  have hP := hP.sub (ws' := [(mo, mo_ fg le sg tp bl pr rs (n) (dn) (sv) (rk) (tn) (ms) (th)), (fg, aI cI (52200) (G2)), (le, aI cI (190) (L2)), (sg, aI cI (90) (zu (Sg) (f) ((Sg) (o9))))]) [1, 2, 3, 0] rfl
  have hD := hD.sub (ws' := [(mo, mo_ fg le sg tp bl pr rs (n) (dn) (sv) (rk) (tn) (ms) (th)), (fg, aI cI (52200) (G2)), (le, aI cI (190) (L2)), (sg, aI cI (90) (zu (Sg) (f) ((Sg) (o9))))]) [1, 2, 3, 0] (by decide) rfl
  exact zr_vret hQ hx hb hr hlk dX11_assign_36 hK hP hD hS (by omega) (by omega) (⟨G2, L2, _, rfl, fun g h1 h2 => ⟨(hG.1 _ (by omega) (by omega)).trans (hG2.1 _ (by omega) (by omega)), (hG.1 _ (by omega) (by omega)).trans (hG2.1 _ (by omega) (by omega)), zu_n Sg _ h2⟩, (zu_s _ _ _).trans hx9.1, (hG2.1 _ (by omega) (by omega)).n hG.2, hG2.2⟩)

set_option maxHeartbeats 4000000 in
set_option maxRecDepth 100000 in
/-- Model.lowest -/
theorem c_mlowest (l : Launch) (D : va_G) (cI cJ cE cF cR : ClassId) (mo fg le sg tp bl pr rs : Nat) (n dn sv rk tn ms th : Int) (f x y a9 : Nat) (z : Int) (F Ln Sg T0 B0 : Nat → Int) (hf : 85 ≤ f ∧ f < 90) (ha9 : a9 ≤ 1200) (hn1 : md_n F Ln 184 (x : Int)) (hn2 : md_n F Ln 185 (y : Int)) (hb1 : (x : Int) < hx_p a9) (hb2 : (y : Int) < hx_p a9) (hy : 0 < y) (hz : x ≠ 0 → z = 1 ∨ z = -1) : Cv l D (zty cI cJ cE cF cR) yX11_lowest wsX11_lowest (zRm 6 180) 0 0 [.ref (mo), .int (iZ (((f : Nat) : Int))), .int (iZ (z)), .int (iZ (((184 : Nat) : Int))), .int (iZ (((185 : Nat) : Int)))] [(mo, mo_ fg le sg tp bl pr rs (n) (dn) (sv) (rk) (tn) (ms) (th)), (fg, aI cI (52200) (F)), (le, aI cI (190) (Ln)), (sg, aI cI (90) (Sg)), (tp, aI cI (1300) (T0)), (bl, aI cI (1300) (B0))] (fun w1 => ∃ (G L1 S1 T1 B1 : Nat → Int), w1 = [(mo, mo_ fg le sg tp bl pr rs (n) (dn) (sv) (rk) (tn) (ms) (th)), (fg, aI cI (52200) (G)), (le, aI cI (190) (L1)), (sg, aI cI (90) (S1)), (tp, aI cI (1300) (T1)), (bl, aI cI (1300) (B1))] ∧ (∀ g : Nat, g < 90 → g ≠ f → md_ef F Ln Sg G L1 S1 g) ∧ md_f G L1 S1 f (mkRat (z * ((x : Nat) : Int)) y)) := by
  unfold Cv
  refine zs (Qc := zQv D _ _) (cc := cX11_lowest) (maxL := 5) (ret := none) (by decide) rfl (Nat.le_of_ble_eq_true rfl) ?_
  intro zp ze s zm below meth zc ls A args Q hQ hx hb hr hts hown hlk hml hnm hN hA hK hP hD hS hl
  have q_f_RX11_14_LimbSolverModel_length_I := hts (.fieldLink RX11 14 "LimbSolverModel" "length" "[I") (by decide +kernel)
  have hin11 : ∀ w ∈ wsX110, w ∈ wsX11_lowest := by decide +kernel
  have q_f_RX11_17_LimbSolverModel_sign_I := hts (.fieldLink RX11 17 "LimbSolverModel" "sign" "[I") (by decide +kernel)
  have hl : lv_has ls 5 [(0, .ref (mo)), (1, .int (iZ (((f : Nat) : Int)))), (2, .int (iZ (z))), (3, .int (iZ (((184 : Nat) : Int)))), (4, .int (iZ (((185 : Nat) : Int))))] := hl
  obtain ⟨kx, hLx, hkx, hkz⟩ := md_len0 hn1
  have hc184 := mdC_b 184
  refine lv_aload_n hx hb dX11_lowest_0 rfl (lv_at hl 0 rfl) ?_
  refine va_get (D := D) (ci := 11) (v := .ref (le)) (C := RX11) (T := TX11) (N := 14) hx hb hts hin11 hown hK hP 0 rfl rfl 1 (by decide) q_f_RX11_14_LimbSolverModel_length_I (fun _ h9 => h9) rfl dX11_lowest_1 ?_
  refine lv_iload_n hx hb dX11_lowest_4 rfl (lv_at hl 3 rfl) ?_
  refine zr_iald hx hb hK hP 2 0 rfl rfl (184) (by omega) (by omega) (by omega) dX11_lowest_5 ?_
  refine zr_eqi ((kx : Nat) : Int) hLx ?_
  refine zr_if_ne hx hb 15 ⟨by omega, by omega⟩ dX11_lowest_6 (by decide) (fun h_6 => ?_) (fun h_6 => ?_)
  · have hx0 : 0 < x := by omega
    have hlow := md_low (s := z) (hz (by omega)) hy hx0
    have hg0 : 0 < Nat.gcd x y := Nat.gcd_pos_of_pos_left y hx0
    have hgl := Nat.gcd_le_left y hx0
    have hgb : ((Nat.gcd x y : Nat) : Int) < hx_p a9 := by omega
    have hqb : ((x / Nat.gcd x y : Nat) : Int) < hx_p a9 := by have := Nat.div_le_self x (Nat.gcd x y); omega
    have hdb : ((y / Nat.gcd x y : Nat) : Int) < hx_p a9 := by have := Nat.div_le_self y (Nat.gcd x y); omega
    refine lv_aload_n hx hb dX11_lowest_15 rfl (lv_at hl 0 rfl) ?_
    refine lv_iload_n hx hb dX11_lowest_16 rfl (lv_at hl 3 rfl) ?_
    refine lv_iload hx hb dX11_lowest_17 (lv_at hl 4 rfl) ?_
    refine zc_Vv (As := [.int (iZ (((184 : Nat) : Int))), .int (iZ (((185 : Nat) : Int)))]) (rest := []) (wr := [(sg, aI cI (90) (Sg))]) ⟨hx, hb, hml, hown, hts⟩ (c_mdivisor l D cI cJ cE cF cR mo fg le sg tp bl pr rs n dn sv rk tn ms th x y a9 F Ln T0 B0 ha9 hn1 hn2 hb1 hb2) (cwV 2 hts gX11_lowest_X11_divisor rfl rfl rfl (by decide +kernel) ⟨Nat.le_of_ble_eq_true rfl, Nat.le_of_ble_eq_true rfl⟩) hN hK hP hD hS hA [0, 1, 2, 4, 5] [3] rfl rfl (by decide) (by decide) (by decide) (q0 := 0) (ci := 11) rfl rfl rfl rfl hl.1 (Nat.le_of_ble_eq_true rfl) dX11_lowest_19 ⟨by decide, by decide⟩ (fun w1 H locs hp hP hD hS => ?_)
    obtain ⟨G, L1, T1, B1, hw9, hk1, hng⟩ := hp
    subst hw9
    have hn184 := (hk1 184 (by decide) (by decide)).n hn1
    have hn185 := (hk1 185 (by decide) (by decide)).n hn2
    have hP := hP.sub (ws' := [(mo, mo_ fg le sg tp bl pr rs (n) (dn) (sv) (rk) (tn) (ms) (th)), (fg, aI cI (52200) (G)), (le, aI cI (190) (L1)), (sg, aI cI (90) (Sg)), (tp, aI cI (1300) (T1)), (bl, aI cI (1300) (B1))]) [1, 2, 3, 0, 4, 5] rfl
    have hD := hD.sub (ws' := [(mo, mo_ fg le sg tp bl pr rs (n) (dn) (sv) (rk) (tn) (ms) (th)), (fg, aI cI (52200) (G)), (le, aI cI (190) (L1)), (sg, aI cI (90) (Sg)), (tp, aI cI (1300) (T1)), (bl, aI cI (1300) (B1))]) [1, 2, 3, 0, 4, 5] (by decide) rfl
    refine lv_aload_n hx hb dX11_lowest_22 rfl (lv_at hl 0 rfl) ?_
    refine va_get (D := D) (ci := 11) (v := .ref (sg)) (C := RX11) (T := TX11) (N := 14) hx hb hts hin11 hown hK hP 0 rfl rfl 2 (by decide) q_f_RX11_17_LimbSolverModel_sign_I (fun _ h9 => h9) rfl dX11_lowest_23 ?_
    refine lv_iload_n hx hb dX11_lowest_26 rfl (lv_at hl 1 rfl) ?_
    refine lv_iload_n hx hb dX11_lowest_27 rfl (lv_at hl 2 rfl) ?_
    refine zr_iast hx hb hK hP hD hS 3 0 rfl rfl (f) (by omega) (by omega) (by omega) dX11_lowest_28 (fun H locs hP hD hS => ?_)
    have hP : va_P D vwCl [(mo, mo_ fg le sg tp bl pr rs (n) (dn) (sv) (rk) (tn) (ms) (th)), (fg, aI cI (52200) (G)), (le, aI cI (190) (L1)), (sg, aI cI (90) (zu (Sg) (f) (z))), (tp, aI cI (1300) (T1)), (bl, aI cI (1300) (B1))] H := hP
    have hD : va_D A [(mo, mo_ fg le sg tp bl pr rs (n) (dn) (sv) (rk) (tn) (ms) (th)), (fg, aI cI (52200) (G)), (le, aI cI (190) (L1)), (sg, aI cI (90) (zu (Sg) (f) (z))), (tp, aI cI (1300) (T1)), (bl, aI cI (1300) (B1))] := hD
    refine lv_aload_n hx hb dX11_lowest_29 rfl (lv_at hl 0 rfl) ?_
    refine lv_sipush (v := iZ 180) hx hb dX11_lowest_30 (by decide) ?_
    refine zr_eqi (((180 : Nat) : Int)) (by rfl) ?_
    refine zc_Vi (As := [.int (iZ (((180 : Nat) : Int)))]) (rest := []) (wr := [(sg, aI cI (90) (zu (Sg) (f) (z))), (tp, aI cI (1300) (T1)), (bl, aI cI (1300) (B1))]) ⟨hx, hb, hml, hown, hts⟩ (c_misOne l D cI cJ cE cF cR mo fg le sg tp bl pr rs n dn sv rk tn ms th 180 G L1 ((Nat.gcd x y : Nat) : Int) (by decide) hng) (cwV 1 hts gX11_lowest_X11_isOne rfl rfl rfl (by decide +kernel) ⟨Nat.le_of_ble_eq_true rfl, Nat.le_of_ble_eq_true rfl⟩) hN hK hP hD hS hA [0, 1, 2] [3, 4, 5] rfl rfl (by decide) (by decide) (by decide) (q0 := 0) (ci := 11) rfl rfl rfl rfl hl.1 (Nat.le_of_ble_eq_true rfl) dX11_lowest_33 ⟨by decide, by decide⟩ (fun ro w1 H locs hz33 hp hP hD hS => ?_)
    obtain ⟨hw9, hro⟩ := hp
    subst hw9
    have hP := hP.sub (ws' := [(mo, mo_ fg le sg tp bl pr rs (n) (dn) (sv) (rk) (tn) (ms) (th)), (fg, aI cI (52200) (G)), (le, aI cI (190) (L1)), (sg, aI cI (90) (zu (Sg) (f) (z))), (tp, aI cI (1300) (T1)), (bl, aI cI (1300) (B1))]) [3, 4, 5, 0, 1, 2] rfl
    have hD := hD.sub (ws' := [(mo, mo_ fg le sg tp bl pr rs (n) (dn) (sv) (rk) (tn) (ms) (th)), (fg, aI cI (52200) (G)), (le, aI cI (190) (L1)), (sg, aI cI (90) (zu (Sg) (f) (z))), (tp, aI cI (1300) (T1)), (bl, aI cI (1300) (B1))]) [3, 4, 5, 0, 1, 2] (by decide) rfl
    refine zr_if_eq hx hb 59 ⟨by rw [hro]; split <;> decide, by rw [hro]; split <;> decide⟩ dX11_lowest_36 (by decide) (fun h_36 => ?_) (fun h_36 => ?_)
    · refine lv_aload_n hx hb dX11_lowest_59 rfl (lv_at hl 0 rfl) ?_
      refine lv_sipush (v := iZ 182) hx hb dX11_lowest_60 (by decide) ?_
      refine zr_eqi (((182 : Nat) : Int)) (by rfl) ?_
      refine lv_sipush (v := iZ 183) hx hb dX11_lowest_63 (by decide) ?_
      refine zr_eqi (((183 : Nat) : Int)) (by rfl) ?_
      refine lv_iload_n hx hb dX11_lowest_66 rfl (lv_at hl 3 rfl) ?_
      refine lv_sipush (v := iZ 180) hx hb dX11_lowest_67 (by decide) ?_
      refine zr_eqi (((180 : Nat) : Int)) (by rfl) ?_
      refine zc_Vv (As := [.int (iZ (((182 : Nat) : Int))), .int (iZ (((183 : Nat) : Int))), .int (iZ (((184 : Nat) : Int))), .int (iZ (((180 : Nat) : Int)))]) (rest := []) (wr := [(sg, aI cI (90) (zu (Sg) (f) (z)))]) ⟨hx, hb, hml, hown, hts⟩ (c_mdivide l D cI cJ cE cF cR mo fg le sg tp bl pr rs n dn sv rk tn ms th 182 183 184 180 a9 a9 G L1 T1 B1 (((x : Nat) : Int)) (((Nat.gcd x y : Nat) : Int)) (by decide) (by decide) (by decide) (by decide) (by decide) (by decide) (hn184) (hng) hb1 hgb (Nat.le_trans ha9 (mdC_w (by decide))) (Nat.le_trans ha9 (mdC_w (by decide))) (by omega)) (cwV 4 hts gX11_lowest_X11_divide rfl rfl rfl (by decide +kernel) ⟨Nat.le_of_ble_eq_true rfl, Nat.le_of_ble_eq_true rfl⟩) hN hK hP hD hS hA [0, 1, 2, 4, 5] [3] rfl rfl (by decide) (by decide) (by decide) (q0 := 0) (ci := 11) rfl rfl rfl rfl hl.1 (Nat.le_of_ble_eq_true rfl) dX11_lowest_70 ⟨by decide, by decide⟩ (fun w1 H locs hp hP hD hS => ?_)
      obtain ⟨G2, L2, T2, B2, hw9, ⟨hk2, hq2, hr2⟩⟩ := hp
      subst hw9
      rw [← Int.natCast_ediv] at hq2
      have hP := hP.sub (ws' := [(mo, mo_ fg le sg tp bl pr rs (n) (dn) (sv) (rk) (tn) (ms) (th)), (fg, aI cI (52200) (G2)), (le, aI cI (190) (L2)), (sg, aI cI (90) (zu (Sg) (f) (z))), (tp, aI cI (1300) (T2)), (bl, aI cI (1300) (B2))]) [1, 2, 3, 0, 4, 5] rfl
      have hD := hD.sub (ws' := [(mo, mo_ fg le sg tp bl pr rs (n) (dn) (sv) (rk) (tn) (ms) (th)), (fg, aI cI (52200) (G2)), (le, aI cI (190) (L2)), (sg, aI cI (90) (zu (Sg) (f) (z))), (tp, aI cI (1300) (T2)), (bl, aI cI (1300) (B2))]) [1, 2, 3, 0, 4, 5] (by decide) rfl
      refine lv_aload_n hx hb dX11_lowest_73 rfl (lv_at hl 0 rfl) ?_
      refine lv_sipush (v := iZ 181) hx hb dX11_lowest_74 (by decide) ?_
      refine zr_eqi (((181 : Nat) : Int)) (by rfl) ?_
      refine lv_sipush (v := iZ 183) hx hb dX11_lowest_77 (by decide) ?_
      refine zr_eqi (((183 : Nat) : Int)) (by rfl) ?_
      refine lv_iload hx hb dX11_lowest_80 (lv_at hl 4 rfl) ?_
      refine lv_sipush (v := iZ 180) hx hb dX11_lowest_82 (by decide) ?_
      refine zr_eqi (((180 : Nat) : Int)) (by rfl) ?_
      refine zc_Vv (As := [.int (iZ (((181 : Nat) : Int))), .int (iZ (((183 : Nat) : Int))), .int (iZ (((185 : Nat) : Int))), .int (iZ (((180 : Nat) : Int)))]) (rest := []) (wr := [(sg, aI cI (90) (zu (Sg) (f) (z)))]) ⟨hx, hb, hml, hown, hts⟩ (c_mdivide l D cI cJ cE cF cR mo fg le sg tp bl pr rs n dn sv rk tn ms th 181 183 185 180 a9 a9 G2 L2 T2 B2 (((y : Nat) : Int)) (((Nat.gcd x y : Nat) : Int)) (by decide) (by decide) (by decide) (by decide) (by decide) (by decide) ((hk2 185 (by decide) (by decide) (by decide)).n hn185) ((hk2 180 (by decide) (by decide) (by decide)).n hng) hb2 hgb (Nat.le_trans ha9 (mdC_w (by decide))) (Nat.le_trans ha9 (mdC_w (by decide))) (by omega)) (cwV 4 hts gX11_lowest_X11_divide rfl rfl rfl (by decide +kernel) ⟨Nat.le_of_ble_eq_true rfl, Nat.le_of_ble_eq_true rfl⟩) hN hK hP hD hS hA [0, 1, 2, 4, 5] [3] rfl rfl (by decide) (by decide) (by decide) (q0 := 0) (ci := 11) rfl rfl rfl rfl hl.1 (Nat.le_of_ble_eq_true rfl) dX11_lowest_85 ⟨by decide, by decide⟩ (fun w1 H locs hp hP hD hS => ?_)
      obtain ⟨G3, L3, T3, B3, hw9, ⟨hk3, hq3, hr3⟩⟩ := hp
      subst hw9
      rw [← Int.natCast_ediv] at hq3
      have hP := hP.sub (ws' := [(mo, mo_ fg le sg tp bl pr rs (n) (dn) (sv) (rk) (tn) (ms) (th)), (fg, aI cI (52200) (G3)), (le, aI cI (190) (L3)), (sg, aI cI (90) (zu (Sg) (f) (z))), (tp, aI cI (1300) (T3)), (bl, aI cI (1300) (B3))]) [1, 2, 3, 0, 4, 5] rfl
      have hD := hD.sub (ws' := [(mo, mo_ fg le sg tp bl pr rs (n) (dn) (sv) (rk) (tn) (ms) (th)), (fg, aI cI (52200) (G3)), (le, aI cI (190) (L3)), (sg, aI cI (90) (zu (Sg) (f) (z))), (tp, aI cI (1300) (T3)), (bl, aI cI (1300) (B3))]) [1, 2, 3, 0, 4, 5] (by decide) rfl
      refine lv_aload_n hx hb dX11_lowest_88 rfl (lv_at hl 0 rfl) ?_
      refine lv_iconst (v := iZ 2) hx hb dX11_lowest_89 rfl ?_
      refine lv_iload_n hx hb dX11_lowest_90 rfl (lv_at hl 1 rfl) ?_
      refine zr_imul hx hb dX11_lowest_91 ?_
      refine zr_eqi (((2 * f : Nat) : Int)) (by omega) ?_
      refine lv_sipush (v := iZ 182) hx hb dX11_lowest_92 (by decide) ?_
      refine zr_eqi (((182 : Nat) : Int)) (by rfl) ?_
      refine zc_Vv (As := [.int (iZ (((2 * f : Nat) : Int))), .int (iZ (((182 : Nat) : Int)))]) (rest := []) (wr := [(sg, aI cI (90) (zu (Sg) (f) (z))), (tp, aI cI (1300) (T3)), (bl, aI cI (1300) (B3))]) ⟨hx, hb, hml, hown, hts⟩ (c_mcopy l D cI cJ cE cF cR mo fg le sg tp bl pr rs n dn sv rk tn ms th (2 * f) 182 a9 G3 L3 (((x / Nat.gcd x y : Nat) : Int)) (by omega) (by decide) (by omega) ((hk3 182 (by decide) (by decide) (by decide)).n hq2) hqb (Nat.le_trans ha9 (mdC_w (by omega)))) (cwV 2 hts gX11_lowest_X11_copy rfl rfl rfl (by decide +kernel) ⟨Nat.le_of_ble_eq_true rfl, Nat.le_of_ble_eq_true rfl⟩) hN hK hP hD hS hA [0, 1, 2] [3, 4, 5] rfl rfl (by decide) (by decide) (by decide) (q0 := 0) (ci := 11) rfl rfl rfl rfl hl.1 (Nat.le_of_ble_eq_true rfl) dX11_lowest_95 ⟨by decide, by decide⟩ (fun w1 H locs hp hP hD hS => ?_)
      obtain ⟨G4, L4, hw9, hG4⟩ := hp
      subst hw9
      have hP := hP.sub (ws' := [(mo, mo_ fg le sg tp bl pr rs (n) (dn) (sv) (rk) (tn) (ms) (th)), (fg, aI cI (52200) (G4)), (le, aI cI (190) (L4)), (sg, aI cI (90) (zu (Sg) (f) (z))), (tp, aI cI (1300) (T3)), (bl, aI cI (1300) (B3))]) [3, 4, 5, 0, 1, 2] rfl
      have hD := hD.sub (ws' := [(mo, mo_ fg le sg tp bl pr rs (n) (dn) (sv) (rk) (tn) (ms) (th)), (fg, aI cI (52200) (G4)), (le, aI cI (190) (L4)), (sg, aI cI (90) (zu (Sg) (f) (z))), (tp, aI cI (1300) (T3)), (bl, aI cI (1300) (B3))]) [3, 4, 5, 0, 1, 2] (by decide) rfl
      refine lv_aload_n hx hb dX11_lowest_98 rfl (lv_at hl 0 rfl) ?_
      refine lv_iconst (v := iZ 2) hx hb dX11_lowest_99 rfl ?_
      refine lv_iload_n hx hb dX11_lowest_100 rfl (lv_at hl 1 rfl) ?_
      refine zr_imul hx hb dX11_lowest_101 ?_
      refine lv_iconst (v := iZ 1) hx hb dX11_lowest_102 rfl ?_
      refine zr_iadd hx hb dX11_lowest_103 ?_
      refine zr_eqi (((2 * f + 1 : Nat) : Int)) (by omega) ?_
      refine lv_sipush (v := iZ 181) hx hb dX11_lowest_104 (by decide) ?_
      refine zr_eqi (((181 : Nat) : Int)) (by rfl) ?_
      refine zc_Vv (As := [.int (iZ (((2 * f + 1 : Nat) : Int))), .int (iZ (((181 : Nat) : Int)))]) (rest := []) (wr := [(sg, aI cI (90) (zu (Sg) (f) (z))), (tp, aI cI (1300) (T3)), (bl, aI cI (1300) (B3))]) ⟨hx, hb, hml, hown, hts⟩ (c_mcopy l D cI cJ cE cF cR mo fg le sg tp bl pr rs n dn sv rk tn ms th (2 * f + 1) 181 a9 G4 L4 (((y / Nat.gcd x y : Nat) : Int)) (by omega) (by decide) (by omega) ((hG4.1 181 (by decide) (by omega)).n hq3) hdb (Nat.le_trans ha9 (mdC_w (by omega)))) (cwV 2 hts gX11_lowest_X11_copy rfl rfl rfl (by decide +kernel) ⟨Nat.le_of_ble_eq_true rfl, Nat.le_of_ble_eq_true rfl⟩) hN hK hP hD hS hA [0, 1, 2] [3, 4, 5] rfl rfl (by decide) (by decide) (by decide) (q0 := 0) (ci := 11) rfl rfl rfl rfl hl.1 (Nat.le_of_ble_eq_true rfl) dX11_lowest_107 ⟨by decide, by decide⟩ (fun w1 H locs hp hP hD hS => ?_)
      obtain ⟨G5, L5, hw9, hG5⟩ := hp
      subst hw9
      have hP := hP.sub (ws' := [(mo, mo_ fg le sg tp bl pr rs (n) (dn) (sv) (rk) (tn) (ms) (th)), (fg, aI cI (52200) (G5)), (le, aI cI (190) (L5)), (sg, aI cI (90) (zu (Sg) (f) (z))), (tp, aI cI (1300) (T3)), (bl, aI cI (1300) (B3))]) [3, 4, 5, 0, 1, 2] rfl
      have hD := hD.sub (ws' := [(mo, mo_ fg le sg tp bl pr rs (n) (dn) (sv) (rk) (tn) (ms) (th)), (fg, aI cI (52200) (G5)), (le, aI cI (190) (L5)), (sg, aI cI (90) (zu (Sg) (f) (z))), (tp, aI cI (1300) (T3)), (bl, aI cI (1300) (B3))]) [3, 4, 5, 0, 1, 2] (by decide) rfl
      exact zr_vret hQ hx hb hr hlk dX11_lowest_110 hK hP hD hS (by omega) (by omega) (⟨G5, L5, _, T3, B3, rfl, fun g h1 h2 => ⟨((((hk1 _ (by omega) (by omega)).trans (hk2 _ (by omega) (by omega) (by omega))).trans (hk3 _ (by omega) (by omega) (by omega))).trans (hG4.1 _ (by omega) (by omega))).trans (hG5.1 _ (by omega) (by omega)), ((((hk1 _ (by omega) (by omega)).trans (hk2 _ (by omega) (by omega) (by omega))).trans (hk3 _ (by omega) (by omega) (by omega))).trans (hG4.1 _ (by omega) (by omega))).trans (hG5.1 _ (by omega) (by omega)), zu_n Sg _ h2⟩, (zu_s _ _ _).trans hlow.2.2.symm, by rw [hlow.1]; exact (hG5.1 _ (by omega) (by omega)).n hG4.2, by rw [hlow.2.1]; exact hG5.2⟩)
    · have hg1 : Nat.gcd x y = 1 := by
        by_cases q : ((Nat.gcd x y : Nat) : Int) = 1
        · omega
        · rw [if_neg q] at hro; omega
      refine lv_aload_n hx hb dX11_lowest_39 rfl (lv_at hl 0 rfl) ?_
      refine lv_iconst (v := iZ 2) hx hb dX11_lowest_40 rfl ?_
      refine lv_iload_n hx hb dX11_lowest_41 rfl (lv_at hl 1 rfl) ?_
      refine zr_imul hx hb dX11_lowest_42 ?_
      refine zr_eqi (((2 * f : Nat) : Int)) (by omega) ?_
      refine lv_iload_n hx hb dX11_lowest_43 rfl (lv_at hl 3 rfl) ?_
      refine zc_Vv (As := [.int (iZ (((2 * f : Nat) : Int))), .int (iZ (((184 : Nat) : Int)))]) (rest := []) (wr := [(sg, aI cI (90) (zu (Sg) (f) (z))), (tp, aI cI (1300) (T1)), (bl, aI cI (1300) (B1))]) ⟨hx, hb, hml, hown, hts⟩ (c_mcopy l D cI cJ cE cF cR mo fg le sg tp bl pr rs n dn sv rk tn ms th (2 * f) 184 a9 G L1 (((x : Nat) : Int)) (by omega) (by decide) (by omega) (hn184) hb1 (Nat.le_trans ha9 (mdC_w (by omega)))) (cwV 2 hts gX11_lowest_X11_copy rfl rfl rfl (by decide +kernel) ⟨Nat.le_of_ble_eq_true rfl, Nat.le_of_ble_eq_true rfl⟩) hN hK hP hD hS hA [0, 1, 2] [3, 4, 5] rfl rfl (by decide) (by decide) (by decide) (q0 := 0) (ci := 11) rfl rfl rfl rfl hl.1 (Nat.le_of_ble_eq_true rfl) dX11_lowest_44 ⟨by decide, by decide⟩ (fun w1 H locs hp hP hD hS => ?_)
      obtain ⟨G2, L2, hw9, hG2⟩ := hp
      subst hw9
      have hP := hP.sub (ws' := [(mo, mo_ fg le sg tp bl pr rs (n) (dn) (sv) (rk) (tn) (ms) (th)), (fg, aI cI (52200) (G2)), (le, aI cI (190) (L2)), (sg, aI cI (90) (zu (Sg) (f) (z))), (tp, aI cI (1300) (T1)), (bl, aI cI (1300) (B1))]) [3, 4, 5, 0, 1, 2] rfl
      have hD := hD.sub (ws' := [(mo, mo_ fg le sg tp bl pr rs (n) (dn) (sv) (rk) (tn) (ms) (th)), (fg, aI cI (52200) (G2)), (le, aI cI (190) (L2)), (sg, aI cI (90) (zu (Sg) (f) (z))), (tp, aI cI (1300) (T1)), (bl, aI cI (1300) (B1))]) [3, 4, 5, 0, 1, 2] (by decide) rfl
      refine lv_aload_n hx hb dX11_lowest_47 rfl (lv_at hl 0 rfl) ?_
      refine lv_iconst (v := iZ 2) hx hb dX11_lowest_48 rfl ?_
      refine lv_iload_n hx hb dX11_lowest_49 rfl (lv_at hl 1 rfl) ?_
      refine zr_imul hx hb dX11_lowest_50 ?_
      refine lv_iconst (v := iZ 1) hx hb dX11_lowest_51 rfl ?_
      refine zr_iadd hx hb dX11_lowest_52 ?_
      refine zr_eqi (((2 * f + 1 : Nat) : Int)) (by omega) ?_
      refine lv_iload hx hb dX11_lowest_53 (lv_at hl 4 rfl) ?_
      refine zc_Vv (As := [.int (iZ (((2 * f + 1 : Nat) : Int))), .int (iZ (((185 : Nat) : Int)))]) (rest := []) (wr := [(sg, aI cI (90) (zu (Sg) (f) (z))), (tp, aI cI (1300) (T1)), (bl, aI cI (1300) (B1))]) ⟨hx, hb, hml, hown, hts⟩ (c_mcopy l D cI cJ cE cF cR mo fg le sg tp bl pr rs n dn sv rk tn ms th (2 * f + 1) 185 a9 G2 L2 (((y : Nat) : Int)) (by omega) (by decide) (by omega) ((hG2.1 185 (by decide) (by omega)).n hn185) hb2 (Nat.le_trans ha9 (mdC_w (by omega)))) (cwV 2 hts gX11_lowest_X11_copy rfl rfl rfl (by decide +kernel) ⟨Nat.le_of_ble_eq_true rfl, Nat.le_of_ble_eq_true rfl⟩) hN hK hP hD hS hA [0, 1, 2] [3, 4, 5] rfl rfl (by decide) (by decide) (by decide) (q0 := 0) (ci := 11) rfl rfl rfl rfl hl.1 (Nat.le_of_ble_eq_true rfl) dX11_lowest_55 ⟨by decide, by decide⟩ (fun w1 H locs hp hP hD hS => ?_)
      obtain ⟨G3, L3, hw9, hG3⟩ := hp
      subst hw9
      have hP := hP.sub (ws' := [(mo, mo_ fg le sg tp bl pr rs (n) (dn) (sv) (rk) (tn) (ms) (th)), (fg, aI cI (52200) (G3)), (le, aI cI (190) (L3)), (sg, aI cI (90) (zu (Sg) (f) (z))), (tp, aI cI (1300) (T1)), (bl, aI cI (1300) (B1))]) [3, 4, 5, 0, 1, 2] rfl
      have hD := hD.sub (ws' := [(mo, mo_ fg le sg tp bl pr rs (n) (dn) (sv) (rk) (tn) (ms) (th)), (fg, aI cI (52200) (G3)), (le, aI cI (190) (L3)), (sg, aI cI (90) (zu (Sg) (f) (z))), (tp, aI cI (1300) (T1)), (bl, aI cI (1300) (B1))]) [3, 4, 5, 0, 1, 2] (by decide) rfl
      exact zr_vret hQ hx hb hr hlk dX11_lowest_58 hK hP hD hS (by omega) (by omega) (⟨G3, L3, _, T1, B1, rfl, fun g h1 h2 => ⟨((hk1 _ (by omega) (by omega)).trans (hG2.1 _ (by omega) (by omega))).trans (hG3.1 _ (by omega) (by omega)), ((hk1 _ (by omega) (by omega)).trans (hG2.1 _ (by omega) (by omega))).trans (hG3.1 _ (by omega) (by omega)), zu_n Sg _ h2⟩, (zu_s _ _ _).trans hlow.2.2.symm, by rw [hlow.1, hg1, Nat.div_one]; exact (hG3.1 _ (by omega) (by omega)).n hG2.2, by rw [hlow.2.1, hg1, Nat.div_one]; exact hG3.2⟩)
  · refine lv_aload_n hx hb dX11_lowest_9 rfl (lv_at hl 0 rfl) ?_
    refine lv_iload_n hx hb dX11_lowest_10 rfl (lv_at hl 1 rfl) ?_
    refine zc_Vv (As := [.int (iZ (((f : Nat) : Int)))]) (rest := []) (wr := [(tp, aI cI (1300) (T0)), (bl, aI cI (1300) (B0))]) ⟨hx, hb, hml, hown, hts⟩ (c_mzero l D cI cJ cE cF cR mo fg le sg tp bl pr rs n dn sv rk tn ms th f F Ln Sg (by omega)) (cwV 1 hts gX11_lowest_X11_zero rfl rfl rfl (by decide +kernel) ⟨Nat.le_of_ble_eq_true rfl, Nat.le_of_ble_eq_true rfl⟩) hN hK hP hD hS hA [0, 1, 2, 3] [4, 5] rfl rfl (by decide) (by decide) (by decide) (q0 := 0) (ci := 11) rfl rfl rfl rfl hl.1 (Nat.le_of_ble_eq_true rfl) dX11_lowest_11 ⟨by decide, by decide⟩ (fun w1 H locs hp hP hD hS => ?_)
    obtain ⟨G, L1, S1, hw9, hk, hG⟩ := hp
    subst hw9
    have hP := hP.sub (ws' := [(mo, mo_ fg le sg tp bl pr rs (n) (dn) (sv) (rk) (tn) (ms) (th)), (fg, aI cI (52200) (G)), (le, aI cI (190) (L1)), (sg, aI cI (90) (S1)), (tp, aI cI (1300) (T0)), (bl, aI cI (1300) (B0))]) [2, 3, 4, 5, 0, 1] rfl
    have hD := hD.sub (ws' := [(mo, mo_ fg le sg tp bl pr rs (n) (dn) (sv) (rk) (tn) (ms) (th)), (fg, aI cI (52200) (G)), (le, aI cI (190) (L1)), (sg, aI cI (90) (S1)), (tp, aI cI (1300) (T0)), (bl, aI cI (1300) (B0))]) [2, 3, 4, 5, 0, 1] (by decide) rfl
    exact zr_vret hQ hx hb hr hlk dX11_lowest_14 hK hP hD hS (by omega) (by omega) (⟨G, L1, S1, T0, B0, rfl, hk, by rw [show x = 0 by omega, Int.natCast_zero, Int.mul_zero, Rat.zero_mkRat]; exact hG⟩)
