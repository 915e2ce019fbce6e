theorem md_mulb {u v a b : Nat} (hu : (u : Int) < hx_p a) (hv : (v : Int) < hx_p b) : ((u * v : Nat) : Int) < hx_p (a + b) := by
  rw [hx_p_add, Int.natCast_mul]
  have h1 : (u : Int) * v ≤ hx_p a * v := Int.mul_le_mul_of_nonneg_right (Int.le_of_lt hu) (Int.natCast_nonneg v)
  have h2 : hx_p a * v < hx_p a * hx_p b := Int.mul_lt_mul_of_pos_left hv (hx_p_pos a)
  omega
theorem md_prs {a b : Rat} (h : a.num.natAbs * b.num.natAbs ≠ 0) : a.num.sign * b.num.sign = 1 ∨ a.num.sign * b.num.sign = -1 := by
  have h1 : a.num.sign ≠ 0 := fun q => h (by rw [md_sg0.mp q]; simp)
  have h2 : b.num.sign ≠ 0 := fun q => h (by rw [md_sg0.mp q]; simp)
  rcases md_sg (x := a) with q | q | q <;> rcases md_sg (x := b) with w | w | w <;> rw [q, w] <;> first | (exact absurd q h1) | (exact absurd w h2) | decide
theorem md_prq {a b : Rat} {k : Nat} (hb : b ≠ 0) (h : a.num.natAbs * k ≠ 0) : a.num.sign * b.num.sign = 1 ∨ a.num.sign * b.num.sign = -1 := by
  have h1 : a.num.sign ≠ 0 := fun q => h (by rw [md_sg0.mp q]; simp)
  have h2 : b.num.sign ≠ 0 := fun q => hb (md_sg0.mp q)
  rcases md_sg (x := a) with q | q | q <;> rcases md_sg (x := b) with w | w | w <;> rw [q, w] <;> first | (exact absurd q h1) | (exact absurd w h2) | decide
/-- numbers of limbs -/
def lcn (v : Nat) : Nat := if v = 0 then 0 else v.log2 / 16 + 1
theorem lcn_ok (v : Nat) : bg_lc (v : Int) (lcn v) := by
  unfold lcn
  by_cases h : v = 0
  · rw [if_pos h, h]; exact ⟨by decide, fun q => absurd q (Nat.lt_irrefl 0)⟩
  · rw [if_neg h]
    have e : ∀ n : Nat, bg_t n = ((2 ^ n : Nat) : Int) := fun n => by show (2 : Int) ^ n = _; simp
    refine ⟨?_, fun _ => ?_⟩
    · rw [e]
      have : v < 2 ^ (16 * (v.log2 / 16 + 1)) := (Nat.log2_lt h).mp (by omega)
      omega
    · rw [e]
      have : 2 ^ (16 * (v.log2 / 16 + 1 - 1)) ≤ v := (Nat.le_log2 h).mp (by omega)
      omega
theorem lcn_u {v r : Nat} {z : Int} (hz : z = (v : Int)) (h : bg_lc z r) : r = lcn v := by subst hz; exact bg_lc_uniq h (lcn_ok v)
theorem hx_bt (n : Nat) : hx_p n = bg_t (16 * n) := by
  show (65536 : Int) ^ n = (2 : Int) ^ (16 * n)
  rw [Int.pow_mul]
  rfl
theorem hx_lc {g : Nat → Int} {n room : Nat} {v : Int} (h : hx_ok g n room v) : bg_lc v n := by
  refine ⟨by rw [← hx_bt]; exact hx_ok_lt h, fun h0 => ?_⟩
  obtain ⟨m, rfl⟩ : ∃ m, n = m + 1 := ⟨n - 1, by omega⟩
  rw [Nat.add_sub_cancel, ← hx_bt, ← h.2.2.2]
  exact hx_can_ge h.2.1 h.2.2.1
theorem md_len {F Ln : Nat → Int} {s v : Nat} (h : md_n F Ln s (v : Int)) : Ln s = ((lcn v : Nat) : Int) ∧ lcn v ≤ mdC s := by
  obtain ⟨k, h1, h2⟩ := h
  have := lcn_u rfl (hx_lc h2)
  exact ⟨by rw [h1, this], by rw [← this]; exact h2.1⟩
theorem hx_digit {g : Nat → Int} {n room k : Nat} {v : Int} (h : hx_ok g n room v) (hk : k < n) : g k = v / bg_t (16 * k) % 65536 := by
  have e := hx_val_split g k (n - k)
  rw [show k + (n - k) = n by omega, h.2.2.2] at e
  have e2 := hx_val_split (fun i => g (k + i)) 1 (n - k - 1)
  rw [show 1 + (n - k - 1) = n - k by omega] at e2
  have e3 : hx_val (fun i => g (k + i)) 1 = g k := by
    rw [hx_vs, hx_v0, hx_p0]
    show 0 + g (k + 0) * 1 = g k
    rw [Nat.add_zero]; omega
  rw [e3, show hx_p 1 = 65536 from rfl] at e2
  rw [e2] at e
  rw [← hx_bt, e, Int.add_mul_ediv_left _ _ (Int.ne_of_gt (hx_p_pos k)), Int.ediv_eq_zero_of_lt (hx_val_nn (hx_dg_le h.2.1 (by omega))) (hx_val_lt (hx_dg_le h.2.1 (by omega))), Int.zero_add, Int.add_mul_emod_self_left, Int.emod_eq_of_lt (h.2.1 k hk).1 (h.2.1 k hk).2]
/-- limbs of a fraction, of rows, of all -/
def rl (x : Rat) : Nat := lcn x.num.natAbs + lcn x.den
def mtr (A : Nat → Rat) (i : Nat) : Nat → Nat
  | 0 => 0
  | c + 1 => mtr A i c + rl (A (7 * i + c))
def mta (A : Nat → Rat) (n : Nat) : Nat → Nat
  | 0 => 0
  | i + 1 => mta A n i + mtr A i (n + 1)
theorem md_sum1 {x y : Rat} {t U V S : Int} (hx : x.num.natAbs = 0 → U = 0) (hy : y.num.natAbs = 0 → V = 0) (ht : t = 1 ∨ t = -1) (h : x.num.sign = y.num.sign * t ∨ x.num.sign = 0 ∨ y.num.sign * t = 0) (hS : S = U + V) (z : Int) (hz : (x.num.sign ≠ 0 ∧ z = x.num.sign) ∨ (x.num.sign = 0 ∧ z = y.num.sign * t)) : z * S = x.num.sign * U + y.num.sign * t * V := by
  have h0 : x.num.sign = 0 → U = 0 := fun q => hx (by rw [md_sg0.mp q]; rfl)
  have h1 : y.num.sign * t = 0 → V = 0 := fun q => hy (by
    have : y.num.sign = 0 := by
      rcases ht with w | w <;> rw [w] at q <;> omega
    rw [md_sg0.mp this]; rfl)
  generalize x.num.sign = a at *
  generalize y.num.sign * t = b at *
  subst hS
  rcases hz with ⟨q1, q2⟩ | ⟨q1, q2⟩
  · subst q2
    rcases h with w | w | w
    · rw [← w]; grind
    · exact absurd w q1
    · rw [h1 w, w]; grind
  · rw [h0 q1, q1, q2]; grind
theorem md_sum2 {x y : Rat} {t U V : Int} (ht : t = 1 ∨ t = -1) (h : x.num.sign ≠ y.num.sign * t) (h0 : x.num.sign ≠ 0) (h1 : y.num.sign * t ≠ 0) : x.num.sign * (U - V) = x.num.sign * U + y.num.sign * t * V ∧ y.num.sign * t * (V - U) = x.num.sign * U + y.num.sign * t * V ∧ (x.num.sign = 1 ∨ x.num.sign = -1) ∧ (y.num.sign * t = 1 ∨ y.num.sign * t = -1) := by
  have e : y.num.sign * t = - x.num.sign := by
    have hb : y.num.sign * t = 1 ∨ y.num.sign * t = 0 ∨ y.num.sign * t = -1 := by
      rcases md_sg (x := y) with w | w | w <;> rcases ht with k | k <;> rw [w, k] <;> decide
    rcases md_sg (x := x) with q | q | q <;> rcases hb with w | w | w <;> omega
  have e2 : x.num.sign = 1 ∨ x.num.sign = -1 := by
    rcases md_sg (x := x) with q | q | q
    · exact Or.inl q
    · exact absurd q h0
    · exact Or.inr q
  rw [e]
  refine ⟨by grind, by grind, e2, by omega⟩
theorem md_sum3 {x y : Rat} {t : Int} (ht : t = 1 ∨ t = -1) (z : Int) {U V : Nat} (hx : x.num.natAbs = 0 → U = 0) (hy : y.num.natAbs = 0 → V = 0) (hz : (x.num.sign ≠ 0 ∧ z = x.num.sign) ∨ (x.num.sign = 0 ∧ z = y.num.sign * t)) (h : U + V ≠ 0) : z = 1 ∨ z = -1 := by
  rcases hz with ⟨q1, q2⟩ | ⟨q1, q2⟩
  · rw [q2]
    rcases md_sg (x := x) with q | q | q
    · exact Or.inl q
    · exact absurd q q1
    · exact Or.inr q
  · have h0 : U = 0 := hx (by rw [md_sg0.mp q1]; rfl)
    have h2 : y.num.sign ≠ 0 := fun q => by
      have : V = 0 := hy (by rw [md_sg0.mp q]; rfl)
      omega
    rw [q2]
    rcases md_sg (x := y) with w | w | w <;> rcases ht with k | k <;> rw [w, k] <;> first | (exact absurd w h2) | decide
theorem md_same {x y : Rat} : x = y ↔ x.num.sign = y.num.sign ∧ ((x.num.natAbs : Nat) : Int) = ((y.num.natAbs : Nat) : Int) ∧ ((x.den : Nat) : Int) = ((y.den : Nat) : Int) := by
  constructor
  · intro h; subst h; exact ⟨rfl, rfl, rfl⟩
  · rintro ⟨h1, h2, h3⟩
    apply Rat.ext
    · rw [md_abs x, md_abs y, h1, h2]
    · omega
set_option maxHeartbeats 4000000 in
set_option maxRecDepth 100000 in
/-- Model.product -/
theorem c_mproduct (l : Launch) (D : va_G) (cI cJ cE cF cR : ClassId) (mo fg le sg tp bl pr rs : Nat) (n dn sv rk tn ms th : Int) (f o1 o2 a9 b9 : Nat) (F Ln Sg T0 B0 : Nat → Int) (x y : Rat) (hf : 85 ≤ f ∧ f < 90) (ho1 : o1 < 90) (ho2 : o2 < 90) (hx9 : md_f F Ln Sg o1 x) (hy9 : md_f F Ln Sg o2 y) (ha1 : ((x.num.natAbs : Nat) : Int) < hx_p a9) (ha2 : ((x.den : Nat) : Int) < hx_p a9) (hb1 : ((y.num.natAbs : Nat) : Int) < hx_p b9) (hb2 : ((y.den : Nat) : Int) < hx_p b9) (hab : a9 + b9 ≤ 1200) : Cv l D (zty cI cJ cE cF cR) yX11_product wsX11_product (zRm 7 215) 0 0 [.ref (mo), .int (iZ (((f : Nat) : Int))), .int (iZ (((o1 : Nat) : Int))), .int (iZ (((o2 : Nat) : Int)))] [(mo, mo_ fg le sg tp bl pr rs (n) (dn) (sv) (rk) (tn) (ms) (th)), (fg, aI cI (52200) (F)), (le, aI cI (190) (Ln)), (sg, aI cI (90) (Sg)), (tp, aI cI (1300) (T0)), (bl, aI cI (1300) (B0))] (fun w1 => ∃ (G L1 S1 T1 B1 : Nat → Int), w1 = [(mo, mo_ fg le sg tp bl pr rs (n) (dn) (sv) (rk) (tn) (ms) (th)), (fg, aI cI (52200) (G)), (le, aI cI (190) (L1)), (sg, aI cI (90) (S1)), (tp, aI cI (1300) (T1)), (bl, aI cI (1300) (B1))] ∧ (∀ g : Nat, g < 90 → g ≠ f → md_ef F Ln Sg G L1 S1 g) ∧ md_f G L1 S1 f (x * y)) := by
  unfold Cv
  refine zs (Qc := zQv D _ _) (cc := cX11_product) (maxL := 4) (ret := none) (by decide) rfl (Nat.le_of_ble_eq_true rfl) ?_
  intro zp ze s zm below meth zc ls A args Q hQ hx hb hr hts hown hlk hml hnm hN hA hK hP hD hS hl
  have q_f_RX11_17_LimbSolverModel_sign_I := hts (.fieldLink RX11 17 "LimbSolverModel" "sign" "[I") (by decide +kernel)
  have hin11 : ∀ w ∈ wsX110, w ∈ wsX11_product := by decide +kernel
  have hl : lv_has ls 4 [(0, .ref (mo)), (1, .int (iZ (((f : Nat) : Int)))), (2, .int (iZ (((o1 : Nat) : Int)))), (3, .int (iZ (((o2 : Nat) : Int))))] := hl
  refine lv_aload_n hx hb dX11_product_0 rfl (lv_at hl 0 rfl) ?_
  refine lv_sipush (v := iZ 184) hx hb dX11_product_1 (by decide) ?_
  refine zr_eqi (((184 : Nat) : Int)) (by rfl) ?_
  refine lv_iconst (v := iZ 2) hx hb dX11_product_4 rfl ?_
  refine lv_iload_n hx hb dX11_product_5 rfl (lv_at hl 2 rfl) ?_
  refine zr_imul hx hb dX11_product_6 ?_
  refine zr_eqi (((2 * o1 : Nat) : Int)) (by omega) ?_
  refine lv_iconst (v := iZ 2) hx hb dX11_product_7 rfl ?_
  refine lv_iload_n hx hb dX11_product_8 rfl (lv_at hl 3 rfl) ?_
  refine zr_imul hx hb dX11_product_9 ?_
  refine zr_eqi (((2 * o2 : Nat) : Int)) (by omega) ?_
  refine zc_Vv (As := [.int (iZ (((184 : Nat) : Int))), .int (iZ (((2 * o1 : Nat) : Int))), .int (iZ (((2 * o2 : Nat) : Int)))]) (rest := []) (wr := [(sg, aI cI (90) (Sg)), (bl, aI cI (1300) (B0))]) ⟨hx, hb, hml, hown, hts⟩ (c_mtimes l D cI cJ cE cF cR mo fg le sg tp bl pr rs n dn sv rk tn ms th 184 (2 * o1) (2 * o2) a9 b9 F Ln T0 ((x.num.natAbs : Nat) : Int) ((y.num.natAbs : Nat) : Int) (by decide) (by omega) (by omega) (hx9.2.1) (hy9.2.1) ha1 hb1 (Nat.le_trans hab (mdC_w (by decide)))) (cwV 3 hts gX11_product_X11_times rfl rfl rfl (by decide +kernel) ⟨Nat.le_of_ble_eq_true rfl, Nat.le_of_ble_eq_true rfl⟩) hN hK hP hD hS hA [0, 1, 2, 4] [3, 5] rfl rfl (by decide) (by decide) (by decide) (q0 := 0) (ci := 11) rfl rfl rfl rfl hl.1 (Nat.le_of_ble_eq_true rfl) dX11_product_10 ⟨by decide, by decide⟩ (fun w1 H locs hp hP hD hS => ?_)
  obtain ⟨G, L1, T1, hw9, hG⟩ := hp
  subst hw9
  have hGk := hG.1
  have hGn := hG.2
  rw [← Int.natCast_mul] at hGn
  have hP := hP.sub (ws' := [(mo, mo_ fg le sg tp bl pr rs (n) (dn) (sv) (rk) (tn) (ms) (th)), (fg, aI cI (52200) (G)), (le, aI cI (190) (L1)), (sg, aI cI (90) (Sg)), (tp, aI cI (1300) (T1)), (bl, aI cI (1300) (B0))]) [2, 3, 4, 0, 5, 1] rfl
  have hD := hD.sub (ws' := [(mo, mo_ fg le sg tp bl pr rs (n) (dn) (sv) (rk) (tn) (ms) (th)), (fg, aI cI (52200) (G)), (le, aI cI (190) (L1)), (sg, aI cI (90) (Sg)), (tp, aI cI (1300) (T1)), (bl, aI cI (1300) (B0))]) [2, 3, 4, 0, 5, 1] (by decide) rfl
  refine lv_aload_n hx hb dX11_product_13 rfl (lv_at hl 0 rfl) ?_
  refine lv_sipush (v := iZ 185) hx hb dX11_product_14 (by decide) ?_
  refine zr_eqi (((185 : Nat) : Int)) (by rfl) ?_
  refine lv_iconst (v := iZ 2) hx hb dX11_product_17 rfl ?_
  refine lv_iload_n hx hb dX11_product_18 rfl (lv_at hl 2 rfl) ?_
  refine zr_imul hx hb dX11_product_19 ?_
  refine lv_iconst (v := iZ 1) hx hb dX11_product_20 rfl ?_
  refine zr_iadd hx hb dX11_product_21 ?_
  refine zr_eqi (((2 * o1 + 1 : Nat) : Int)) (by omega) ?_
  refine lv_iconst (v := iZ 2) hx hb dX11_product_22 rfl ?_
  refine lv_iload_n hx hb dX11_product_23 rfl (lv_at hl 3 rfl) ?_
  refine zr_imul hx hb dX11_product_24 ?_
  refine lv_iconst (v := iZ 1) hx hb dX11_product_25 rfl ?_
  refine zr_iadd hx hb dX11_product_26 ?_
  refine zr_eqi (((2 * o2 + 1 : Nat) : Int)) (by omega) ?_
  refine zc_Vv (As := [.int (iZ (((185 : Nat) : Int))), .int (iZ (((2 * o1 + 1 : Nat) : Int))), .int (iZ (((2 * o2 + 1 : Nat) : Int)))]) (rest := []) (wr := [(sg, aI cI (90) (Sg)), (bl, aI cI (1300) (B0))]) ⟨hx, hb, hml, hown, hts⟩ (c_mtimes l D cI cJ cE cF cR mo fg le sg tp bl pr rs n dn sv rk tn ms th 185 (2 * o1 + 1) (2 * o2 + 1) a9 b9 G L1 T1 ((x.den : Nat) : Int) ((y.den : Nat) : Int) (by decide) (by omega) (by omega) ((hGk _ (by omega) (by omega)).n hx9.2.2) ((hGk _ (by omega) (by omega)).n hy9.2.2) ha2 hb2 (Nat.le_trans hab (mdC_w (by decide)))) (cwV 3 hts gX11_product_X11_times rfl rfl rfl (by decide +kernel) ⟨Nat.le_of_ble_eq_true rfl, Nat.le_of_ble_eq_true rfl⟩) hN hK hP hD hS hA [0, 1, 2, 4] [3, 5] rfl rfl (by decide) (by decide) (by decide) (q0 := 0) (ci := 11) rfl rfl rfl rfl hl.1 (Nat.le_of_ble_eq_true rfl) dX11_product_27 ⟨by decide, by decide⟩ (fun w1 H locs hp hP hD hS => ?_)
  obtain ⟨G2, L2, T2, hw9, hG2⟩ := hp
  subst hw9
  have hG2k := hG2.1
  have hG2n := hG2.2
  rw [← Int.natCast_mul] at hG2n
  have hP := hP.sub (ws' := [(mo, mo_ fg le sg tp bl pr rs (n) (dn) (sv) (rk) (tn) (ms) (th)), (fg, aI cI (52200) (G2)), (le, aI cI (190) (L2)), (sg, aI cI (90) (Sg)), (tp, aI cI (1300) (T2)), (bl, aI cI (1300) (B0))]) [2, 3, 4, 0, 5, 1] rfl
  have hD := hD.sub (ws' := [(mo, mo_ fg le sg tp bl pr rs (n) (dn) (sv) (rk) (tn) (ms) (th)), (fg, aI cI (52200) (G2)), (le, aI cI (190) (L2)), (sg, aI cI (90) (Sg)), (tp, aI cI (1300) (T2)), (bl, aI cI (1300) (B0))]) [2, 3, 4, 0, 5, 1] (by decide) rfl
  refine lv_aload_n hx hb dX11_product_30 rfl (lv_at hl 0 rfl) ?_
  refine lv_iload_n hx hb dX11_product_31 rfl (lv_at hl 1 rfl) ?_
  refine lv_aload_n hx hb dX11_product_32 rfl (lv_at hl 0 rfl) ?_
  refine va_get (D := D) (ci := 11) (v := .ref (sg)) (C := RX11) (T := TX11) (N := 14) hx hb hts hin11 hown hK hP 0 rfl rfl 2 (by decide) q_f_RX11_17_LimbSolverModel_sign_I (fun _ h9 => h9) rfl dX11_product_33 ?_
  refine lv_iload_n hx hb dX11_product_36 rfl (lv_at hl 2 rfl) ?_
  refine zr_iald hx hb hK hP 3 0 rfl rfl (o1) (by omega) (by omega) (by omega) dX11_product_37 ?_
  refine zr_eqi x.num.sign hx9.1 ?_
  refine lv_aload_n hx hb dX11_product_38 rfl (lv_at hl 0 rfl) ?_
  refine va_get (D := D) (ci := 11) (v := .ref (sg)) (C := RX11) (T := TX11) (N := 14) hx hb hts hin11 hown hK hP 0 rfl rfl 2 (by decide) q_f_RX11_17_LimbSolverModel_sign_I (fun _ h9 => h9) rfl dX11_product_39 ?_
  refine lv_iload_n hx hb dX11_product_42 rfl (lv_at hl 3 rfl) ?_
  refine zr_iald hx hb hK hP 3 0 rfl rfl (o2) (by omega) (by omega) (by omega) dX11_product_43 ?_
  refine zr_eqi y.num.sign hy9.1 ?_
  refine zr_imul hx hb dX11_product_44 ?_
  refine lv_sipush (v := iZ 184) hx hb dX11_product_45 (by decide) ?_
  refine zr_eqi (((184 : Nat) : Int)) (by rfl) ?_
  refine lv_sipush (v := iZ 185) hx hb dX11_product_48 (by decide) ?_
  refine zr_eqi (((185 : Nat) : Int)) (by rfl) ?_
  refine zc_Vv (As := [.int (iZ (((f : Nat) : Int))), .int (iZ ((x.num.sign) * (y.num.sign))), .int (iZ (((184 : Nat) : Int))), .int (iZ (((185 : Nat) : Int)))]) (rest := []) (wr := []) ⟨hx, hb, hml, hown, hts⟩ (c_mlowest l D cI cJ cE cF cR mo fg le sg tp bl pr rs n dn sv rk tn ms th f (x.num.natAbs * y.num.natAbs) (x.den * y.den) (a9 + b9) (x.num.sign * y.num.sign) G2 L2 Sg T2 B0 hf hab ((hG2k 184 (by decide) (by decide)).n hGn) hG2n (md_mulb ha1 hb1) (md_mulb ha2 hb2) (Nat.mul_pos x.den_pos y.den_pos) md_prs) (cwV 4 hts gX11_product_X11_lowest rfl rfl rfl (by decide +kernel) ⟨Nat.le_of_ble_eq_true rfl, Nat.le_of_ble_eq_true rfl⟩) hN hK hP hD hS hA [0, 1, 2, 3, 4, 5] [] rfl rfl (by decide) (by decide) (by decide) (q0 := 0) (ci := 11) rfl rfl rfl rfl hl.1 (Nat.le_of_ble_eq_true rfl) dX11_product_51 ⟨by decide, by decide⟩ (fun w1 H locs hp hP hD hS => ?_)
  obtain ⟨G3, L3, S3, T3, B3, hw9, hk3, hG3⟩ := hp
  subst hw9
  have hP := hP.sub (ws' := [(mo, mo_ fg le sg tp bl pr rs (n) (dn) (sv) (rk) (tn) (ms) (th)), (fg, aI cI (52200) (G3)), (le, aI cI (190) (L3)), (sg, aI cI (90) (S3)), (tp, aI cI (1300) (T3)), (bl, aI cI (1300) (B3))]) [0, 1, 2, 3, 4, 5] rfl
  have hD := hD.sub (ws' := [(mo, mo_ fg le sg tp bl pr rs (n) (dn) (sv) (rk) (tn) (ms) (th)), (fg, aI cI (52200) (G3)), (le, aI cI (190) (L3)), (sg, aI cI (90) (S3)), (tp, aI cI (1300) (T3)), (bl, aI cI (1300) (B3))]) [0, 1, 2, 3, 4, 5] (by decide) rfl
  exact zr_vret hQ hx hb hr hlk dX11_product_54 hK hP hD hS (by omega) (by omega) (⟨G3, L3, S3, T3, B3, rfl, fun g h1 h2 => ⟨((hGk _ (by omega) (by omega)).trans (hG2k _ (by omega) (by omega))).trans (hk3 g h1 h2).1, ((hGk _ (by omega) (by omega)).trans (hG2k _ (by omega) (by omega))).trans (hk3 g h1 h2).2.1, (hk3 g h1 h2).2.2⟩, by rw [← md_mul x y]; exact hG3⟩)

set_option maxHeartbeats 4000000 in
set_option maxRecDepth 100000 in
/-- Model.quotient -/
theorem c_mquotient (l : Launch) (D : va_G) (cI cJ cE cF cR : ClassId) (mo fg le sg tp bl pr rs : Nat) (n dn sv rk tn ms th : Int) (f o1 o2 a9 b9 : Nat) (F Ln Sg T0 B0 : Nat → Int) (x y : Rat) (hf : 85 ≤ f ∧ f < 90) (ho1 : o1 < 90) (ho2 : o2 < 90) (hx9 : md_f F Ln Sg o1 x) (hy9 : md_f F Ln Sg o2 y) (ha1 : ((x.num.natAbs : Nat) : Int) < hx_p a9) (ha2 : ((x.den : Nat) : Int) < hx_p a9) (hb1 : ((y.num.natAbs : Nat) : Int) < hx_p b9) (hb2 : ((y.den : Nat) : Int) < hx_p b9) (hab : a9 + b9 ≤ 1200) (hy0 : y ≠ 0) : Cv l D (zty cI cJ cE cF cR) yX11_quotient wsX11_quotient (zRm 7 215) 0 0 [.ref (mo), .int (iZ (((f : Nat) : Int))), .int (iZ (((o1 : Nat) : Int))), .int (iZ (((o2 : Nat) : Int)))] [(mo, mo_ fg le sg tp bl pr rs (n) (dn) (sv) (rk) (tn) (ms) (th)), (fg, aI cI (52200) (F)), (le, aI cI (190) (Ln)), (sg, aI cI (90) (Sg)), (tp, aI cI (1300) (T0)), (bl, aI cI (1300) (B0))] (fun w1 => ∃ (G L1 S1 T1 B1 : Nat → Int), w1 = [(mo, mo_ fg le sg tp bl pr rs (n) (dn) (sv) (rk) (tn) (ms) (th)), (fg, aI cI (52200) (G)), (le, aI cI (190) (L1)), (sg, aI cI (90) (S1)), (tp, aI cI (1300) (T1)), (bl, aI cI (1300) (B1))] ∧ (∀ g : Nat, g < 90 → g ≠ f → md_ef F Ln Sg G L1 S1 g) ∧ md_f G L1 S1 f (x / y)) := by
  unfold Cv
  refine zs (Qc := zQv D _ _) (cc := cX11_quotient) (maxL := 4) (ret := none) (by decide) rfl (Nat.le_of_ble_eq_true rfl) ?_
  intro zp ze s zm below meth zc ls A args Q hQ hx hb hr hts hown hlk hml hnm hN hA hK hP hD hS hl
  have q_f_RX11_17_LimbSolverModel_sign_I := hts (.fieldLink RX11 17 "LimbSolverModel" "sign" "[I") (by decide +kernel)
  have hin11 : ∀ w ∈ wsX110, w ∈ wsX11_quotient := by decide +kernel
  have hl : lv_has ls 4 [(0, .ref (mo)), (1, .int (iZ (((f : Nat) : Int)))), (2, .int (iZ (((o1 : Nat) : Int)))), (3, .int (iZ (((o2 : Nat) : Int))))] := hl
  refine lv_aload_n hx hb dX11_quotient_0 rfl (lv_at hl 0 rfl) ?_
  refine lv_sipush (v := iZ 184) hx hb dX11_quotient_1 (by decide) ?_
  refine zr_eqi (((184 : Nat) : Int)) (by rfl) ?_
  refine lv_iconst (v := iZ 2) hx hb dX11_quotient_4 rfl ?_
  refine lv_iload_n hx hb dX11_quotient_5 rfl (lv_at hl 2 rfl) ?_
  refine zr_imul hx hb dX11_quotient_6 ?_
  refine zr_eqi (((2 * o1 : Nat) : Int)) (by omega) ?_
  refine lv_iconst (v := iZ 2) hx hb dX11_quotient_7 rfl ?_
  refine lv_iload_n hx hb dX11_quotient_8 rfl (lv_at hl 3 rfl) ?_
  refine zr_imul hx hb dX11_quotient_9 ?_
  refine lv_iconst (v := iZ 1) hx hb dX11_quotient_10 rfl ?_
  refine zr_iadd hx hb dX11_quotient_11 ?_
  refine zr_eqi (((2 * o2 + 1 : Nat) : Int)) (by omega) ?_
  refine zc_Vv (As := [.int (iZ (((184 : Nat) : Int))), .int (iZ (((2 * o1 : Nat) : Int))), .int (iZ (((2 * o2 + 1 : Nat) : Int)))]) (rest := []) (wr := [(sg, aI cI (90) (Sg)), (bl, aI cI (1300) (B0))]) ⟨hx, hb, hml, hown, hts⟩ (c_mtimes l D cI cJ cE cF cR mo fg le sg tp bl pr rs n dn sv rk tn ms th 184 (2 * o1) (2 * o2 + 1) a9 b9 F Ln T0 ((x.num.natAbs : Nat) : Int) ((y.den : Nat) : Int) (by decide) (by omega) (by omega) (hx9.2.1) (hy9.2.2) ha1 hb2 (Nat.le_trans hab (mdC_w (by decide)))) (cwV 3 hts gX11_quotient_X11_times rfl rfl rfl (by decide +kernel) ⟨Nat.le_of_ble_eq_true rfl, Nat.le_of_ble_eq_true rfl⟩) hN hK hP hD hS hA [0, 1, 2, 4] [3, 5] rfl rfl (by decide) (by decide) (by decide) (q0 := 0) (ci := 11) rfl rfl rfl rfl hl.1 (Nat.le_of_ble_eq_true rfl) dX11_quotient_12 ⟨by decide, by decide⟩ (fun w1 H locs hp hP hD hS => ?_)
  obtain ⟨G, L1, T1, hw9, hG⟩ := hp
  subst hw9
  have hGk := hG.1
  have hGn := hG.2
  rw [← Int.natCast_mul] at hGn
  have hP := hP.sub (ws' := [(mo, mo_ fg le sg tp bl pr rs (n) (dn) (sv) (rk) (tn) (ms) (th)), (fg, aI cI (52200) (G)), (le, aI cI (190) (L1)), (sg, aI cI (90) (Sg)), (tp, aI cI (1300) (T1)), (bl, aI cI (1300) (B0))]) [2, 3, 4, 0, 5, 1] rfl
  have hD := hD.sub (ws' := [(mo, mo_ fg le sg tp bl pr rs (n) (dn) (sv) (rk) (tn) (ms) (th)), (fg, aI cI (52200) (G)), (le, aI cI (190) (L1)), (sg, aI cI (90) (Sg)), (tp, aI cI (1300) (T1)), (bl, aI cI (1300) (B0))]) [2, 3, 4, 0, 5, 1] (by decide) rfl
  refine lv_aload_n hx hb dX11_quotient_15 rfl (lv_at hl 0 rfl) ?_
  refine lv_sipush (v := iZ 185) hx hb dX11_quotient_16 (by decide) ?_
  refine zr_eqi (((185 : Nat) : Int)) (by rfl) ?_
  refine lv_iconst (v := iZ 2) hx hb dX11_quotient_19 rfl ?_
  refine lv_iload_n hx hb dX11_quotient_20 rfl (lv_at hl 2 rfl) ?_
  refine zr_imul hx hb dX11_quotient_21 ?_
  refine lv_iconst (v := iZ 1) hx hb dX11_quotient_22 rfl ?_
  refine zr_iadd hx hb dX11_quotient_23 ?_
  refine zr_eqi (((2 * o1 + 1 : Nat) : Int)) (by omega) ?_
  refine lv_iconst (v := iZ 2) hx hb dX11_quotient_24 rfl ?_
  refine lv_iload_n hx hb dX11_quotient_25 rfl (lv_at hl 3 rfl) ?_
  refine zr_imul hx hb dX11_quotient_26 ?_
  refine zr_eqi (((2 * o2 : Nat) : Int)) (by omega) ?_
  refine zc_Vv (As := [.int (iZ (((185 : Nat) : Int))), .int (iZ (((2 * o1 + 1 : Nat) : Int))), .int (iZ (((2 * o2 : Nat) : Int)))]) (rest := []) (wr := [(sg, aI cI (90) (Sg)), (bl, aI cI (1300) (B0))]) ⟨hx, hb, hml, hown, hts⟩ (c_mtimes l D cI cJ cE cF cR mo fg le sg tp bl pr rs n dn sv rk tn ms th 185 (2 * o1 + 1) (2 * o2) a9 b9 G L1 T1 ((x.den : Nat) : Int) ((y.num.natAbs : Nat) : Int) (by decide) (by omega) (by omega) ((hGk _ (by omega) (by omega)).n hx9.2.2) ((hGk _ (by omega) (by omega)).n hy9.2.1) ha2 hb1 (Nat.le_trans hab (mdC_w (by decide)))) (cwV 3 hts gX11_quotient_X11_times rfl rfl rfl (by decide +kernel) ⟨Nat.le_of_ble_eq_true rfl, Nat.le_of_ble_eq_true rfl⟩) hN hK hP hD hS hA [0, 1, 2, 4] [3, 5] rfl rfl (by decide) (by decide) (by decide) (q0 := 0) (ci := 11) rfl rfl rfl rfl hl.1 (Nat.le_of_ble_eq_true rfl) dX11_quotient_27 ⟨by decide, by decide⟩ (fun w1 H locs hp hP hD hS => ?_)
  obtain ⟨G2, L2, T2, hw9, hG2⟩ := hp
  subst hw9
  have hG2k := hG2.1
  have hG2n := hG2.2
  rw [← Int.natCast_mul] at hG2n
  have hP := hP.sub (ws' := [(mo, mo_ fg le sg tp bl pr rs (n) (dn) (sv) (rk) (tn) (ms) (th)), (fg, aI cI (52200) (G2)), (le, aI cI (190) (L2)), (sg, aI cI (90) (Sg)), (tp, aI cI (1300) (T2)), (bl, aI cI (1300) (B0))]) [2, 3, 4, 0, 5, 1] rfl
  have hD := hD.sub (ws' := [(mo, mo_ fg le sg tp bl pr rs (n) (dn) (sv) (rk) (tn) (ms) (th)), (fg, aI cI (52200) (G2)), (le, aI cI (190) (L2)), (sg, aI cI (90) (Sg)), (tp, aI cI (1300) (T2)), (bl, aI cI (1300) (B0))]) [2, 3, 4, 0, 5, 1] (by decide) rfl
  refine lv_aload_n hx hb dX11_quotient_30 rfl (lv_at hl 0 rfl) ?_
  refine lv_iload_n hx hb dX11_quotient_31 rfl (lv_at hl 1 rfl) ?_
  refine lv_aload_n hx hb dX11_quotient_32 rfl (lv_at hl 0 rfl) ?_
  refine va_get (D := D) (ci := 11) (v := .ref (sg)) (C := RX11) (T := TX11) (N := 14) hx hb hts hin11 hown hK hP 0 rfl rfl 2 (by decide) q_f_RX11_17_LimbSolverModel_sign_I (fun _ h9 => h9) rfl dX11_quotient_33 ?_
  refine lv_iload_n hx hb dX11_quotient_36 rfl (lv_at hl 2 rfl) ?_
  refine zr_iald hx hb hK hP 3 0 rfl rfl (o1) (by omega) (by omega) (by omega) dX11_quotient_37 ?_
  refine zr_eqi x.num.sign hx9.1 ?_
  refine lv_aload_n hx hb dX11_quotient_38 rfl (lv_at hl 0 rfl) ?_
  refine va_get (D := D) (ci := 11) (v := .ref (sg)) (C := RX11) (T := TX11) (N := 14) hx hb hts hin11 hown hK hP 0 rfl rfl 2 (by decide) q_f_RX11_17_LimbSolverModel_sign_I (fun _ h9 => h9) rfl dX11_quotient_39 ?_
  refine lv_iload_n hx hb dX11_quotient_42 rfl (lv_at hl 3 rfl) ?_
  refine zr_iald hx hb hK hP 3 0 rfl rfl (o2) (by omega) (by omega) (by omega) dX11_quotient_43 ?_
  refine zr_eqi y.num.sign hy9.1 ?_
  refine zr_imul hx hb dX11_quotient_44 ?_
  refine lv_sipush (v := iZ 184) hx hb dX11_quotient_45 (by decide) ?_
  refine zr_eqi (((184 : Nat) : Int)) (by rfl) ?_
  refine lv_sipush (v := iZ 185) hx hb dX11_quotient_48 (by decide) ?_
  refine zr_eqi (((185 : Nat) : Int)) (by rfl) ?_
  refine zc_Vv (As := [.int (iZ (((f : Nat) : Int))), .int (iZ ((x.num.sign) * (y.num.sign))), .int (iZ (((184 : Nat) : Int))), .int (iZ (((185 : Nat) : Int)))]) (rest := []) (wr := []) ⟨hx, hb, hml, hown, hts⟩ (c_mlowest l D cI cJ cE cF cR mo fg le sg tp bl pr rs n dn sv rk tn ms th f (x.num.natAbs * y.den) (x.den * y.num.natAbs) (a9 + b9) (x.num.sign * y.num.sign) G2 L2 Sg T2 B0 hf hab ((hG2k 184 (by decide) (by decide)).n hGn) hG2n (md_mulb ha1 hb2) (md_mulb ha2 hb1) (Nat.mul_pos x.den_pos (Int.natAbs_pos.mpr (fun q => hy0 (Rat.num_eq_zero.mp q)))) (md_prq hy0)) (cwV 4 hts gX11_quotient_X11_lowest rfl rfl rfl (by decide +kernel) ⟨Nat.le_of_ble_eq_true rfl, Nat.le_of_ble_eq_true rfl⟩) hN hK hP hD hS hA [0, 1, 2, 3, 4, 5] [] rfl rfl (by decide) (by decide) (by decide) (q0 := 0) (ci := 11) rfl rfl rfl rfl hl.1 (Nat.le_of_ble_eq_true rfl) dX11_quotient_51 ⟨by decide, by decide⟩ (fun w1 H locs hp hP hD hS => ?_)
  obtain ⟨G3, L3, S3, T3, B3, hw9, hk3, hG3⟩ := hp
  subst hw9
  have hP := hP.sub (ws' := [(mo, mo_ fg le sg tp bl pr rs (n) (dn) (sv) (rk) (tn) (ms) (th)), (fg, aI cI (52200) (G3)), (le, aI cI (190) (L3)), (sg, aI cI (90) (S3)), (tp, aI cI (1300) (T3)), (bl, aI cI (1300) (B3))]) [0, 1, 2, 3, 4, 5] rfl
  have hD := hD.sub (ws' := [(mo, mo_ fg le sg tp bl pr rs (n) (dn) (sv) (rk) (tn) (ms) (th)), (fg, aI cI (52200) (G3)), (le, aI cI (190) (L3)), (sg, aI cI (90) (S3)), (tp, aI cI (1300) (T3)), (bl, aI cI (1300) (B3))]) [0, 1, 2, 3, 4, 5] (by decide) rfl
  exact zr_vret hQ hx hb hr hlk dX11_quotient_54 hK hP hD hS (by omega) (by omega) (⟨G3, L3, S3, T3, B3, rfl, fun g h1 h2 => ⟨((hGk _ (by omega) (by omega)).trans (hG2k _ (by omega) (by omega))).trans (hk3 g h1 h2).1, ((hGk _ (by omega) (by omega)).trans (hG2k _ (by omega) (by omega))).trans (hk3 g h1 h2).2.1, (hk3 g h1 h2).2.2⟩, by rw [← md_div x y hy0]; exact hG3⟩)

set_option maxHeartbeats 4000000 in
set_option maxRecDepth 100000 in
/-- Model.sum -/
theorem c_msum (l : Launch) (D : va_G) (cI cJ cE cF cR : ClassId) (mo fg le sg tp bl pr rs : Nat) (n dn sv rk tn ms th : Int) (f o1 o2 a9 b9 : Nat) (F Ln Sg T0 B0 : Nat → Int) (x y : Rat) (hf : 85 ≤ f ∧ f < 90) (ho1 : o1 < 90) (ho2 : o2 < 90) (hx9 : md_f F Ln Sg o1 x) (hy9 : md_f F Ln Sg o2 y) (ha1 : ((x.num.natAbs : Nat) : Int) < hx_p a9) (ha2 : ((x.den : Nat) : Int) < hx_p a9) (hb1 : ((y.num.natAbs : Nat) : Int) < hx_p b9) (hb2 : ((y.den : Nat) : Int) < hx_p b9) (tb : Int) (htb : tb = 1 ∨ tb = -1) (hab : a9 + b9 + 1 ≤ 1200) : Cv l D (zty cI cJ cE cF cR) yX11_sum wsX11_sum (zRm 7 225) 0 0 [.ref (mo), .int (iZ (((f : Nat) : Int))), .int (iZ (((o1 : Nat) : Int))), .int (iZ (((o2 : Nat) : Int))), .int (iZ (tb))] [(mo, mo_ fg le sg tp bl pr rs (n) (dn) (sv) (rk) (tn) (ms) (th)), (fg, aI cI (52200) (F)), (le, aI cI (190) (Ln)), (sg, aI cI (90) (Sg)), (tp, aI cI (1300) (T0)), (bl, aI cI (1300) (B0))] (fun w1 => ∃ (G L1 S1 T1 B1 : Nat → Int), w1 = [(mo, mo_ fg le sg tp bl pr rs (n) (dn) (sv) (rk) (tn) (ms) (th)), (fg, aI cI (52200) (G)), (le, aI cI (190) (L1)), (sg, aI cI (90) (S1)), (tp, aI cI (1300) (T1)), (bl, aI cI (1300) (B1))] ∧ (∀ g : Nat, g < 90 → g ≠ f → md_ef F Ln Sg G L1 S1 g) ∧ md_f G L1 S1 f (x + (tb : Rat) * y)) := by
  unfold Cv
  refine zs (Qc := zQv D _ _) (cc := cX11_sum) (maxL := 9) (ret := none) (by decide) rfl (Nat.le_of_ble_eq_true rfl) ?_
  intro zp ze s zm below meth zc ls A args Q hQ hx hb hr hts hown hlk hml hnm hN hA hK hP hD hS hl
  have q_f_RX11_17_LimbSolverModel_sign_I := hts (.fieldLink RX11 17 "LimbSolverModel" "sign" "[I") (by decide +kernel)
  have hin11 : ∀ w ∈ wsX110, w ∈ wsX11_sum := by decide +kernel
  have hl : lv_has ls 9 [(0, .ref (mo)), (1, .int (iZ (((f : Nat) : Int)))), (2, .int (iZ (((o1 : Nat) : Int)))), (3, .int (iZ (((o2 : Nat) : Int)))), (4, .int (iZ (tb)))] := hl
  have jn : ∀ (z : Int) (S9 : Nat) (G2 : Nat → Int) (L2 : Nat → Int) (T2 : Nat → Int) (H : Heap) (locs : List Loc) (ls : Array Slot), (∀ s : Nat, s < 180 → md_e F Ln G2 L2 s) → (md_n G2 L2 184 (S9 : Int)) → (md_n G2 L2 185 ((x.den * y.den : Nat) : Int)) → ((S9 : Int) < hx_p (a9 + b9 + 1)) → (z * (S9 : Int) = x.num.sign * ((x.num.natAbs * y.den : Nat) : Int) + y.num.sign * tb * ((y.num.natAbs * x.den : Nat) : Int)) → (S9 ≠ 0 → z = 1 ∨ z = -1) →  va_P D vwCl [(mo, mo_ fg le sg tp bl pr rs (n) (dn) (sv) (rk) (tn) (ms) (th)), (fg, aI cI (52200) (G2)), (le, aI cI (190) (L2)), (sg, aI cI (90) (Sg)), (tp, aI cI (1300) (T2)), (bl, aI cI (1300) (B0))] H → va_D A [(mo, mo_ fg le sg tp bl pr rs (n) (dn) (sv) (rk) (tn) (ms) (th)), (fg, aI cI (52200) (G2)), (le, aI cI (190) (L2)), (sg, aI cI (90) (Sg)), (tp, aI cI (1300) (T2)), (bl, aI cI (1300) (B0))] → va_S A s.heap H locs → lv_has ls 9 [(8, .int (iZ (z))), (0, .ref (mo)), (1, .int (iZ (((f : Nat) : Int)))), (2, .int (iZ (((o1 : Nat) : Int)))), (3, .int (iZ (((o2 : Nat) : Int)))), (4, .int (iZ (tb)))] → W zp l ze (zRm 7 225) s zm args below meth zc H locs 0 0 Q (F0 zm 167 ls []) := by
    intro z S9 G2 L2 T2 H locs ls hke hn184 hn185 hS9 hzS hz9 hP hD hS hl
    refine lv_aload_n hx hb dX11_sum_167 rfl (lv_at hl 1 rfl) ?_
    refine lv_iload_n hx hb dX11_sum_168 rfl (lv_at hl 2 rfl) ?_
    refine lv_iload hx hb dX11_sum_169 (lv_at hl 0 rfl) ?_
    refine lv_sipush (v := iZ 184) hx hb dX11_sum_171 (by decide) ?_
    refine zr_eqi (((184 : Nat) : Int)) (by rfl) ?_
    refine lv_sipush (v := iZ 185) hx hb dX11_sum_174 (by decide) ?_
    refine zr_eqi (((185 : Nat) : Int)) (by rfl) ?_
    refine zc_Vv (As := [.int (iZ (((f : Nat) : Int))), .int (iZ (z)), .int (iZ (((184 : Nat) : Int))), .int (iZ (((185 : Nat) : Int)))]) (rest := []) (wr := []) ⟨hx, hb, hml, hown, hts⟩ (c_mlowest l D cI cJ cE cF cR mo fg le sg tp bl pr rs n dn sv rk tn ms th f (S9) (x.den * y.den) (a9 + b9 + 1) (z) G2 L2 Sg T2 B0 hf hab hn184 hn185 hS9 (Int.lt_of_lt_of_le (md_mulb ha2 hb2) (hx_p_le (Nat.le_succ _))) (Nat.mul_pos x.den_pos y.den_pos) hz9) (cwV 4 hts gX11_sum_X11_lowest rfl rfl rfl (by decide +kernel) ⟨Nat.le_of_ble_eq_true rfl, Nat.le_of_ble_eq_true rfl⟩) hN hK hP hD hS hA [0, 1, 2, 3, 4, 5] [] rfl rfl (by decide) (by decide) (by decide) (q0 := 0) (ci := 11) rfl rfl rfl rfl hl.1 (Nat.le_of_ble_eq_true rfl) dX11_sum_177 ⟨by decide, by decide⟩ (fun w1 H locs hp hP hD hS => ?_)
    obtain ⟨G3, L3, S3, T3, B3, hw9, hk3, hG3⟩ := hp
    subst hw9
    have hP := hP.sub (ws' := [(mo, mo_ fg le sg tp bl pr rs (n) (dn) (sv) (rk) (tn) (ms) (th)), (fg, aI cI (52200) (G3)), (le, aI cI (190) (L3)), (sg, aI cI (90) (S3)), (tp, aI cI (1300) (T3)), (bl, aI cI (1300) (B3))]) [0, 1, 2, 3, 4, 5] rfl
    have hD := hD.sub (ws' := [(mo, mo_ fg le sg tp bl pr rs (n) (dn) (sv) (rk) (tn) (ms) (th)), (fg, aI cI (52200) (G3)), (le, aI cI (190) (L3)), (sg, aI cI (90) (S3)), (tp, aI cI (1300) (T3)), (bl, aI cI (1300) (B3))]) [0, 1, 2, 3, 4, 5] (by decide) rfl
    exact zr_vret hQ hx hb hr hlk dX11_sum_180 hK hP hD hS (by omega) (by omega) (⟨G3, L3, S3, T3, B3, rfl, fun g h1 h2 => ⟨(hke _ (by omega)).trans (hk3 g h1 h2).1, (hke _ (by omega)).trans (hk3 g h1 h2).2.1, (hk3 g h1 h2).2.2⟩, by rw [← md_add x y tb, ← hzS]; exact hG3⟩)
  refine lv_aload_n hx hb dX11_sum_0 rfl (lv_at hl 0 rfl) ?_
  refine lv_sipush (v := iZ 186) hx hb dX11_sum_1 (by decide) ?_
  refine zr_eqi (((186 : Nat) : Int)) (by rfl) ?_
  refine lv_iconst (v := iZ 2) hx hb dX11_sum_4 rfl ?_
  refine lv_iload_n hx hb dX11_sum_5 rfl (lv_at hl 2 rfl) ?_
  refine zr_imul hx hb dX11_sum_6 ?_
  refine zr_eqi (((2 * o1 : Nat) : Int)) (by omega) ?_
  refine lv_iconst (v := iZ 2) hx hb dX11_sum_7 rfl ?_
  refine lv_iload_n hx hb dX11_sum_8 rfl (lv_at hl 3 rfl) ?_
  refine zr_imul hx hb dX11_sum_9 ?_
  refine lv_iconst (v := iZ 1) hx hb dX11_sum_10 rfl ?_
  refine zr_iadd hx hb dX11_sum_11 ?_
  refine zr_eqi (((2 * o2 + 1 : Nat) : Int)) (by omega) ?_
  refine zc_Vv (As := [.int (iZ (((186 : Nat) : Int))), .int (iZ (((2 * o1 : Nat) : Int))), .int (iZ (((2 * o2 + 1 : Nat) : Int)))]) (rest := []) (wr := [(sg, aI cI (90) (Sg)), (bl, aI cI (1300) (B0))]) ⟨hx, hb, hml, hown, hts⟩ (c_mtimes l D cI cJ cE cF cR mo fg le sg tp bl pr rs n dn sv rk tn ms th 186 (2 * o1) (2 * o2 + 1) a9 b9 F Ln T0 ((x.num.natAbs : Nat) : Int) ((y.den : Nat) : Int) (by decide) (by omega) (by omega) (hx9.2.1) (hy9.2.2) ha1 hb2 (Nat.le_trans (show a9 + b9 ≤ 1200 by omega) (mdC_w (by decide)))) (cwV 3 hts gX11_sum_X11_times rfl rfl rfl (by decide +kernel) ⟨Nat.le_of_ble_eq_true rfl, Nat.le_of_ble_eq_true rfl⟩) hN hK hP hD hS hA [0, 1, 2, 4] [3, 5] rfl rfl (by decide) (by decide) (by decide) (q0 := 0) (ci := 11) rfl rfl rfl rfl hl.1 (Nat.le_of_ble_eq_true rfl) dX11_sum_12 ⟨by decide, by decide⟩ (fun w1 H locs hp hP hD hS => ?_)
  obtain ⟨G, L1, T1, hw9, hG⟩ := hp
  subst hw9
  have hGk := hG.1
  have hGn := hG.2
  rw [← Int.natCast_mul] at hGn
  have hP := hP.sub (ws' := [(mo, mo_ fg le sg tp bl pr rs (n) (dn) (sv) (rk) (tn) (ms) (th)), (fg, aI cI (52200) (G)), (le, aI cI (190) (L1)), (sg, aI cI (90) (Sg)), (tp, aI cI (1300) (T1)), (bl, aI cI (1300) (B0))]) [2, 3, 4, 0, 5, 1] rfl
  have hD := hD.sub (ws' := [(mo, mo_ fg le sg tp bl pr rs (n) (dn) (sv) (rk) (tn) (ms) (th)), (fg, aI cI (52200) (G)), (le, aI cI (190) (L1)), (sg, aI cI (90) (Sg)), (tp, aI cI (1300) (T1)), (bl, aI cI (1300) (B0))]) [2, 3, 4, 0, 5, 1] (by decide) rfl
  refine lv_aload_n hx hb dX11_sum_15 rfl (lv_at hl 0 rfl) ?_
  refine lv_sipush (v := iZ 187) hx hb dX11_sum_16 (by decide) ?_
  refine zr_eqi (((187 : Nat) : Int)) (by rfl) ?_
  refine lv_iconst (v := iZ 2) hx hb dX11_sum_19 rfl ?_
  refine lv_iload_n hx hb dX11_sum_20 rfl (lv_at hl 3 rfl) ?_
  refine zr_imul hx hb dX11_sum_21 ?_
  refine zr_eqi (((2 * o2 : Nat) : Int)) (by omega) ?_
  refine lv_iconst (v := iZ 2) hx hb dX11_sum_22 rfl ?_
  refine lv_iload_n hx hb dX11_sum_23 rfl (lv_at hl 2 rfl) ?_
  refine zr_imul hx hb dX11_sum_24 ?_
  refine lv_iconst (v := iZ 1) hx hb dX11_sum_25 rfl ?_
  refine zr_iadd hx hb dX11_sum_26 ?_
  refine zr_eqi (((2 * o1 + 1 : Nat) : Int)) (by omega) ?_
  refine zc_Vv (As := [.int (iZ (((187 : Nat) : Int))), .int (iZ (((2 * o2 : Nat) : Int))), .int (iZ (((2 * o1 + 1 : Nat) : Int)))]) (rest := []) (wr := [(sg, aI cI (90) (Sg)), (bl, aI cI (1300) (B0))]) ⟨hx, hb, hml, hown, hts⟩ (c_mtimes l D cI cJ cE cF cR mo fg le sg tp bl pr rs n dn sv rk tn ms th 187 (2 * o2) (2 * o1 + 1) b9 a9 G L1 T1 ((y.num.natAbs : Nat) : Int) ((x.den : Nat) : Int) (by decide) (by omega) (by omega) ((hGk _ (by omega) (by omega)).n hy9.2.1) ((hGk _ (by omega) (by omega)).n hx9.2.2) hb1 ha2 (Nat.le_trans (show b9 + a9 ≤ 1200 by omega) (mdC_w (by decide)))) (cwV 3 hts gX11_sum_X11_times rfl rfl rfl (by decide +kernel) ⟨Nat.le_of_ble_eq_true rfl, Nat.le_of_ble_eq_true rfl⟩) hN hK hP hD hS hA [0, 1, 2, 4] [3, 5] rfl rfl (by decide) (by decide) (by decide) (q0 := 0) (ci := 11) rfl rfl rfl rfl hl.1 (Nat.le_of_ble_eq_true rfl) dX11_sum_27 ⟨by decide, by decide⟩ (fun w1 H locs hp hP hD hS => ?_)
  obtain ⟨G1, L11, T11, hw9, hG1⟩ := hp
  subst hw9
  have hG1k := hG1.1
  have hG1n := hG1.2
  rw [← Int.natCast_mul] at hG1n
  have hP := hP.sub (ws' := [(mo, mo_ fg le sg tp bl pr rs (n) (dn) (sv) (rk) (tn) (ms) (th)), (fg, aI cI (52200) (G1)), (le, aI cI (190) (L11)), (sg, aI cI (90) (Sg)), (tp, aI cI (1300) (T11)), (bl, aI cI (1300) (B0))]) [2, 3, 4, 0, 5, 1] rfl
  have hD := hD.sub (ws' := [(mo, mo_ fg le sg tp bl pr rs (n) (dn) (sv) (rk) (tn) (ms) (th)), (fg, aI cI (52200) (G1)), (le, aI cI (190) (L11)), (sg, aI cI (90) (Sg)), (tp, aI cI (1300) (T11)), (bl, aI cI (1300) (B0))]) [2, 3, 4, 0, 5, 1] (by decide) rfl
  refine lv_aload_n hx hb dX11_sum_30 rfl (lv_at hl 0 rfl) ?_
  refine lv_sipush (v := iZ 185) hx hb dX11_sum_31 (by decide) ?_
  refine zr_eqi (((185 : Nat) : Int)) (by rfl) ?_
  refine lv_iconst (v := iZ 2) hx hb dX11_sum_34 rfl ?_
  refine lv_iload_n hx hb dX11_sum_35 rfl (lv_at hl 2 rfl) ?_
  refine zr_imul hx hb dX11_sum_36 ?_
  refine lv_iconst (v := iZ 1) hx hb dX11_sum_37 rfl ?_
  refine zr_iadd hx hb dX11_sum_38 ?_
  refine zr_eqi (((2 * o1 + 1 : Nat) : Int)) (by omega) ?_
  refine lv_iconst (v := iZ 2) hx hb dX11_sum_39 rfl ?_
  refine lv_iload_n hx hb dX11_sum_40 rfl (lv_at hl 3 rfl) ?_
  refine zr_imul hx hb dX11_sum_41 ?_
  refine lv_iconst (v := iZ 1) hx hb dX11_sum_42 rfl ?_
  refine zr_iadd hx hb dX11_sum_43 ?_
  refine zr_eqi (((2 * o2 + 1 : Nat) : Int)) (by omega) ?_
  refine zc_Vv (As := [.int (iZ (((185 : Nat) : Int))), .int (iZ (((2 * o1 + 1 : Nat) : Int))), .int (iZ (((2 * o2 + 1 : Nat) : Int)))]) (rest := []) (wr := [(sg, aI cI (90) (Sg)), (bl, aI cI (1300) (B0))]) ⟨hx, hb, hml, hown, hts⟩ (c_mtimes l D cI cJ cE cF cR mo fg le sg tp bl pr rs n dn sv rk tn ms th 185 (2 * o1 + 1) (2 * o2 + 1) a9 b9 G1 L11 T11 ((x.den : Nat) : Int) ((y.den : Nat) : Int) (by decide) (by omega) (by omega) ((hG1k _ (by omega) (by omega)).n ((hGk _ (by omega) (by omega)).n hx9.2.2)) ((hG1k _ (by omega) (by omega)).n ((hGk _ (by omega) (by omega)).n hy9.2.2)) ha2 hb2 (Nat.le_trans (show a9 + b9 ≤ 1200 by omega) (mdC_w (by decide)))) (cwV 3 hts gX11_sum_X11_times rfl rfl rfl (by decide +kernel) ⟨Nat.le_of_ble_eq_true rfl, Nat.le_of_ble_eq_true rfl⟩) hN hK hP hD hS hA [0, 1, 2, 4] [3, 5] rfl rfl (by decide) (by decide) (by decide) (q0 := 0) (ci := 11) rfl rfl rfl rfl hl.1 (Nat.le_of_ble_eq_true rfl) dX11_sum_44 ⟨by decide, by decide⟩ (fun w1 H locs hp hP hD hS => ?_)
  obtain ⟨G2, L2, T2, hw9, hG2⟩ := hp
  subst hw9
  have hG2k := hG2.1
  have hG2n := hG2.2
  rw [← Int.natCast_mul] at hG2n
  have hP := hP.sub (ws' := [(mo, mo_ fg le sg tp bl pr rs (n) (dn) (sv) (rk) (tn) (ms) (th)), (fg, aI cI (52200) (G2)), (le, aI cI (190) (L2)), (sg, aI cI (90) (Sg)), (tp, aI cI (1300) (T2)), (bl, aI cI (1300) (B0))]) [2, 3, 4, 0, 5, 1] rfl
  have hD := hD.sub (ws' := [(mo, mo_ fg le sg tp bl pr rs (n) (dn) (sv) (rk) (tn) (ms) (th)), (fg, aI cI (52200) (G2)), (le, aI cI (190) (L2)), (sg, aI cI (90) (Sg)), (tp, aI cI (1300) (T2)), (bl, aI cI (1300) (B0))]) [2, 3, 4, 0, 5, 1] (by decide) rfl
  have hnU : md_n G2 L2 186 ((x.num.natAbs * y.den : Nat) : Int) := (hG2k 186 (by decide) (by decide)).n ((hG1k 186 (by decide) (by decide)).n hGn)
  have hnV : md_n G2 L2 187 ((y.num.natAbs * x.den : Nat) : Int) := (hG2k 187 (by decide) (by decide)).n hG1n
  have hnT := hG2n
  have hk2 : ∀ s : Nat, s < 180 → md_e F Ln G2 L2 s := fun s h => ((hGk s (by omega) (by omega)).trans (hG1k s (by omega) (by omega))).trans (hG2k s (by omega) (by omega))
  have hUb := md_mulb ha1 hb2
  have hVb : ((y.num.natAbs * x.den : Nat) : Int) < hx_p (a9 + b9) := by have q := md_mulb hb1 ha2; rw [Nat.add_comm b9 a9] at q; exact q
  have hsx := md_sg (x := x)
  have hsy : y.num.sign * tb = 1 ∨ y.num.sign * tb = 0 ∨ y.num.sign * tb = -1 := by rcases md_sg (x := y) with w | w | w <;> rcases htb with q | q <;> rw [w, q] <;> decide
  refine lv_aload_n hx hb dX11_sum_47 rfl (lv_at hl 0 rfl) ?_
  refine va_get (D := D) (ci := 11) (v := .ref (sg)) (C := RX11) (T := TX11) (N := 14) hx hb hts hin11 hown hK hP 0 rfl rfl 2 (by decide) q_f_RX11_17_LimbSolverModel_sign_I (fun _ h9 => h9) rfl dX11_sum_48 ?_
  refine lv_iload_n hx hb dX11_sum_51 rfl (lv_at hl 2 rfl) ?_
  refine zr_iald hx hb hK hP 3 0 rfl rfl (o1) (by omega) (by omega) (by omega) dX11_sum_52 ?_
  refine zr_eqi x.num.sign (hx9.1) ?_
  refine lv_istore (lv' := [(5, .int (iZ (x.num.sign))), (0, .ref (mo)), (1, .int (iZ (((f : Nat) : Int)))), (2, .int (iZ (((o1 : Nat) : Int)))), (3, .int (iZ (((o2 : Nat) : Int)))), (4, .int (iZ (tb)))]) hx hb dX11_sum_53 hl (by decide) rfl (fun ls hl => ?_)
  refine lv_aload_n hx hb dX11_sum_55 rfl (lv_at hl 1 rfl) ?_
  refine va_get (D := D) (ci := 11) (v := .ref (sg)) (C := RX11) (T := TX11) (N := 14) hx hb hts hin11 hown hK hP 0 rfl rfl 2 (by decide) q_f_RX11_17_LimbSolverModel_sign_I (fun _ h9 => h9) rfl dX11_sum_56 ?_
  refine lv_iload_n hx hb dX11_sum_59 rfl (lv_at hl 4 rfl) ?_
  refine zr_iald hx hb hK hP 3 0 rfl rfl (o2) (by omega) (by omega) (by omega) dX11_sum_60 ?_
  refine zr_eqi y.num.sign (hy9.1) ?_
  refine lv_iload hx hb dX11_sum_61 (lv_at hl 5 rfl) ?_
  refine zr_imul hx hb dX11_sum_63 ?_
  refine lv_istore (lv' := [(6, .int (iZ ((y.num.sign) * (tb)))), (5, .int (iZ (x.num.sign))), (0, .ref (mo)), (1, .int (iZ (((f : Nat) : Int)))), (2, .int (iZ (((o1 : Nat) : Int)))), (3, .int (iZ (((o2 : Nat) : Int)))), (4, .int (iZ (tb)))]) hx hb dX11_sum_64 hl (by decide) rfl (fun ls hl => ?_)
  refine lv_aload_n hx hb dX11_sum_66 rfl (lv_at hl 2 rfl) ?_
  refine lv_sipush (v := iZ 186) hx hb dX11_sum_67 (by decide) ?_
  refine zr_eqi (((186 : Nat) : Int)) (by rfl) ?_
  refine lv_sipush (v := iZ 187) hx hb dX11_sum_70 (by decide) ?_
  refine zr_eqi (((187 : Nat) : Int)) (by rfl) ?_
  refine zc_Vi (As := [.int (iZ (((186 : Nat) : Int))), .int (iZ (((187 : Nat) : Int)))]) (rest := []) (wr := [(sg, aI cI (90) (Sg)), (tp, aI cI (1300) (T2)), (bl, aI cI (1300) (B0))]) ⟨hx, hb, hml, hown, hts⟩ (c_mcompare l D cI cJ cE cF cR mo fg le sg tp bl pr rs n dn sv rk tn ms th 186 187 G2 L2 ((x.num.natAbs * y.den : Nat) : Int) ((y.num.natAbs * x.den : Nat) : Int) (by decide) (by decide) hnU hnV) (cwV 2 hts gX11_sum_X11_compare rfl rfl rfl (by decide +kernel) ⟨Nat.le_of_ble_eq_true rfl, Nat.le_of_ble_eq_true rfl⟩) hN hK hP hD hS hA [0, 1, 2] [3, 4, 5] rfl rfl (by decide) (by decide) (by decide) (q0 := 0) (ci := 11) rfl rfl rfl rfl hl.1 (Nat.le_of_ble_eq_true rfl) dX11_sum_73 ⟨by decide, by decide⟩ (fun rc w1 H locs hz73 hp hP hD hS => ?_)
  obtain ⟨hw9, hcm⟩ := hp
  subst hw9
  have hP := hP.sub (ws' := [(mo, mo_ fg le sg tp bl pr rs (n) (dn) (sv) (rk) (tn) (ms) (th)), (fg, aI cI (52200) (G2)), (le, aI cI (190) (L2)), (sg, aI cI (90) (Sg)), (tp, aI cI (1300) (T2)), (bl, aI cI (1300) (B0))]) [3, 4, 5, 0, 1, 2] rfl
  have hD := hD.sub (ws' := [(mo, mo_ fg le sg tp bl pr rs (n) (dn) (sv) (rk) (tn) (ms) (th)), (fg, aI cI (52200) (G2)), (le, aI cI (190) (L2)), (sg, aI cI (90) (Sg)), (tp, aI cI (1300) (T2)), (bl, aI cI (1300) (B0))]) [3, 4, 5, 0, 1, 2] (by decide) rfl
  refine lv_istore (lv' := [(7, .int (iZ (rc))), (6, .int (iZ ((y.num.sign) * (tb)))), (5, .int (iZ (x.num.sign))), (0, .ref (mo)), (1, .int (iZ (((f : Nat) : Int)))), (2, .int (iZ (((o1 : Nat) : Int)))), (3, .int (iZ (((o2 : Nat) : Int)))), (4, .int (iZ (tb)))]) hx hb dX11_sum_76 hl (by decide) rfl (fun ls hl => ?_)
  refine lv_iload hx hb dX11_sum_78 (lv_at hl 2 rfl) ?_
  refine lv_istore (lv' := [(8, .int (iZ (x.num.sign))), (7, .int (iZ (rc))), (6, .int (iZ ((y.num.sign) * (tb)))), (5, .int (iZ (x.num.sign))), (0, .ref (mo)), (1, .int (iZ (((f : Nat) : Int)))), (2, .int (iZ (((o1 : Nat) : Int)))), (3, .int (iZ (((o2 : Nat) : Int)))), (4, .int (iZ (tb)))]) hx hb dX11_sum_80 hl (by decide) rfl (fun ls hl => ?_)
  refine lv_iload hx hb dX11_sum_82 (lv_at hl 3 rfl) ?_
  refine lv_iload hx hb dX11_sum_84 (lv_at hl 2 rfl) ?_
  refine zr_icmp_eq hx hb 99 ⟨by omega, by omega⟩ ⟨by omega, by omega⟩ dX11_sum_86 (by decide) (fun h_86 => ?_) (fun h_86 => ?_)
  · refine lv_aload_n hx hb dX11_sum_99 rfl (lv_at hl 4 rfl) ?_
    refine lv_sipush (v := iZ 184) hx hb dX11_sum_100 (by decide) ?_
    refine zr_eqi (((184 : Nat) : Int)) (by rfl) ?_
    refine lv_sipush (v := iZ 186) hx hb dX11_sum_103 (by decide) ?_
    refine zr_eqi (((186 : Nat) : Int)) (by rfl) ?_
    refine lv_sipush (v := iZ 187) hx hb dX11_sum_106 (by decide) ?_
    refine zr_eqi (((187 : Nat) : Int)) (by rfl) ?_
    refine zc_Vv (As := [.int (iZ (((184 : Nat) : Int))), .int (iZ (((186 : Nat) : Int))), .int (iZ (((187 : Nat) : Int)))]) (rest := []) (wr := [(sg, aI cI (90) (Sg)), (bl, aI cI (1300) (B0))]) ⟨hx, hb, hml, hown, hts⟩ (c_madd l D cI cJ cE cF cR mo fg le sg tp bl pr rs n dn sv rk tn ms th 184 186 187 (a9 + b9) G2 L2 T2 ((x.num.natAbs * y.den : Nat) : Int) ((y.num.natAbs * x.den : Nat) : Int) (by decide) (by decide) (by decide) hnU hnV hUb hVb (Nat.le_trans hab (mdC_w (by decide)))) (cwV 3 hts gX11_sum_X11_add rfl rfl rfl (by decide +kernel) ⟨Nat.le_of_ble_eq_true rfl, Nat.le_of_ble_eq_true rfl⟩) hN hK hP hD hS hA [0, 1, 2, 4] [3, 5] rfl rfl (by decide) (by decide) (by decide) (q0 := 0) (ci := 11) rfl rfl rfl rfl hl.1 (Nat.le_of_ble_eq_true rfl) dX11_sum_109 ⟨by decide, by decide⟩ (fun w1 H locs hp hP hD hS => ?_)
    obtain ⟨G3, L3, T3, hw9, hG3⟩ := hp
    subst hw9
    have hG3k := hG3.1
    have hG3n := hG3.2
    rw [← Int.natCast_add] at hG3n
    have hP := hP.sub (ws' := [(mo, mo_ fg le sg tp bl pr rs (n) (dn) (sv) (rk) (tn) (ms) (th)), (fg, aI cI (52200) (G3)), (le, aI cI (190) (L3)), (sg, aI cI (90) (Sg)), (tp, aI cI (1300) (T3)), (bl, aI cI (1300) (B0))]) [2, 3, 4, 0, 5, 1] rfl
    have hD := hD.sub (ws' := [(mo, mo_ fg le sg tp bl pr rs (n) (dn) (sv) (rk) (tn) (ms) (th)), (fg, aI cI (52200) (G3)), (le, aI cI (190) (L3)), (sg, aI cI (90) (Sg)), (tp, aI cI (1300) (T3)), (bl, aI cI (1300) (B0))]) [2, 3, 4, 0, 5, 1] (by decide) rfl
    refine lv_iload hx hb dX11_sum_112 (lv_at hl 3 rfl) ?_
    refine zr_if_eq hx hb 122 ⟨by omega, by omega⟩ dX11_sum_114 (by decide) (fun h_114 => ?_) (fun h_114 => ?_)
    · refine lv_iload hx hb dX11_sum_122 (lv_at hl 2 rfl) ?_
      refine lv_istore (lv' := [(8, .int (iZ ((y.num.sign) * (tb)))), (7, .int (iZ (rc))), (6, .int (iZ ((y.num.sign) * (tb)))), (5, .int (iZ (x.num.sign))), (0, .ref (mo)), (1, .int (iZ (((f : Nat) : Int)))), (2, .int (iZ (((o1 : Nat) : Int)))), (3, .int (iZ (((o2 : Nat) : Int)))), (4, .int (iZ (tb)))]) hx hb dX11_sum_124 hl (by decide) rfl (fun ls hl => ?_)
      refine lv_goto (tgt := 167) hx hb dX11_sum_126 (by decide) ?_
      have hzz : (x.num.sign ≠ 0 ∧ (y.num.sign) * (tb) = x.num.sign) ∨ (x.num.sign = 0 ∧ (y.num.sign) * (tb) = y.num.sign * tb) := by first | exact Or.inl ⟨by omega, rfl⟩ | exact Or.inr ⟨by omega, rfl⟩
      exact jn ((y.num.sign) * (tb)) (x.num.natAbs * y.den + y.num.natAbs * x.den) G3 L3 T3 H locs ls (fun s h => (hk2 s h).trans (hG3k s (by omega) (by omega))) hG3n ((hG3k 185 (by decide) (by decide)).n hnT) (by rw [hx_ps]; have := hx_p_pos (a9 + b9); omega) (by rw [Int.natCast_add]; exact md_sum1 (fun q => by rw [q, Nat.zero_mul]; rfl) (fun q => by rw [q, Nat.zero_mul]; rfl) htb (by omega) rfl _ hzz) (md_sum3 htb _ (fun q => by rw [q, Nat.zero_mul]) (fun q => by rw [q, Nat.zero_mul]) hzz) hP hD hS (lv_sub hl [0, 4, 5, 6, 7, 8] rfl)
    · refine lv_iload hx hb dX11_sum_117 (lv_at hl 3 rfl) ?_
      refine lv_goto (tgt := 124) hx hb dX11_sum_119 (by decide) ?_
      refine lv_istore (lv' := [(8, .int (iZ (x.num.sign))), (7, .int (iZ (rc))), (6, .int (iZ ((y.num.sign) * (tb)))), (5, .int (iZ (x.num.sign))), (0, .ref (mo)), (1, .int (iZ (((f : Nat) : Int)))), (2, .int (iZ (((o1 : Nat) : Int)))), (3, .int (iZ (((o2 : Nat) : Int)))), (4, .int (iZ (tb)))]) hx hb dX11_sum_124 hl (by decide) rfl (fun ls hl => ?_)
      refine lv_goto (tgt := 167) hx hb dX11_sum_126 (by decide) ?_
      have hzz : (x.num.sign ≠ 0 ∧ x.num.sign = x.num.sign) ∨ (x.num.sign = 0 ∧ x.num.sign = y.num.sign * tb) := by first | exact Or.inl ⟨by omega, rfl⟩ | exact Or.inr ⟨by omega, rfl⟩
      exact jn (x.num.sign) (x.num.natAbs * y.den + y.num.natAbs * x.den) G3 L3 T3 H locs ls (fun s h => (hk2 s h).trans (hG3k s (by omega) (by omega))) hG3n ((hG3k 185 (by decide) (by decide)).n hnT) (by rw [hx_ps]; have := hx_p_pos (a9 + b9); omega) (by rw [Int.natCast_add]; exact md_sum1 (fun q => by rw [q, Nat.zero_mul]; rfl) (fun q => by rw [q, Nat.zero_mul]; rfl) htb (by omega) rfl _ hzz) (md_sum3 htb _ (fun q => by rw [q, Nat.zero_mul]) (fun q => by rw [q, Nat.zero_mul]) hzz) hP hD hS (lv_sub hl [0, 4, 5, 6, 7, 8] rfl)
  · refine lv_iload hx hb dX11_sum_89 (lv_at hl 3 rfl) ?_
    refine zr_if_eq hx hb 99 ⟨by omega, by omega⟩ dX11_sum_91 (by decide) (fun h_91 => ?_) (fun h_91 => ?_)
    · refine lv_aload_n hx hb dX11_sum_99 rfl (lv_at hl 4 rfl) ?_
      refine lv_sipush (v := iZ 184) hx hb dX11_sum_100 (by decide) ?_
      refine zr_eqi (((184 : Nat) : Int)) (by rfl) ?_
      refine lv_sipush (v := iZ 186) hx hb dX11_sum_103 (by decide) ?_
      refine zr_eqi (((186 : Nat) : Int)) (by rfl) ?_
      refine lv_sipush (v := iZ 187) hx hb dX11_sum_106 (by decide) ?_
      refine zr_eqi (((187 : Nat) : Int)) (by rfl) ?_
      refine zc_Vv (As := [.int (iZ (((184 : Nat) : Int))), .int (iZ (((186 : Nat) : Int))), .int (iZ (((187 : Nat) : Int)))]) (rest := []) (wr := [(sg, aI cI (90) (Sg)), (bl, aI cI (1300) (B0))]) ⟨hx, hb, hml, hown, hts⟩ (c_madd l D cI cJ cE cF cR mo fg le sg tp bl pr rs n dn sv rk tn ms th 184 186 187 (a9 + b9) G2 L2 T2 ((x.num.natAbs * y.den : Nat) : Int) ((y.num.natAbs * x.den : Nat) : Int) (by decide) (by decide) (by decide) hnU hnV hUb hVb (Nat.le_trans hab (mdC_w (by decide)))) (cwV 3 hts gX11_sum_X11_add rfl rfl rfl (by decide +kernel) ⟨Nat.le_of_ble_eq_true rfl, Nat.le_of_ble_eq_true rfl⟩) hN hK hP hD hS hA [0, 1, 2, 4] [3, 5] rfl rfl (by decide) (by decide) (by decide) (q0 := 0) (ci := 11) rfl rfl rfl rfl hl.1 (Nat.le_of_ble_eq_true rfl) dX11_sum_109 ⟨by decide, by decide⟩ (fun w1 H locs hp hP hD hS => ?_)
      obtain ⟨G3, L3, T3, hw9, hG3⟩ := hp
      subst hw9
      have hG3k := hG3.1
      have hG3n := hG3.2
      rw [← Int.natCast_add] at hG3n
      have hP := hP.sub (ws' := [(mo, mo_ fg le sg tp bl pr rs (n) (dn) (sv) (rk) (tn) (ms) (th)), (fg, aI cI (52200) (G3)), (le, aI cI (190) (L3)), (sg, aI cI (90) (Sg)), (tp, aI cI (1300) (T3)), (bl, aI cI (1300) (B0))]) [2, 3, 4, 0, 5, 1] rfl
      have hD := hD.sub (ws' := [(mo, mo_ fg le sg tp bl pr rs (n) (dn) (sv) (rk) (tn) (ms) (th)), (fg, aI cI (52200) (G3)), (le, aI cI (190) (L3)), (sg, aI cI (90) (Sg)), (tp, aI cI (1300) (T3)), (bl, aI cI (1300) (B0))]) [2, 3, 4, 0, 5, 1] (by decide) rfl
      refine lv_iload hx hb dX11_sum_112 (lv_at hl 3 rfl) ?_
      refine zr_if_eq hx hb 122 ⟨by omega, by omega⟩ dX11_sum_114 (by decide) (fun h_114 => ?_) (fun h_114 => ?_)
      · refine lv_iload hx hb dX11_sum_122 (lv_at hl 2 rfl) ?_
        refine lv_istore (lv' := [(8, .int (iZ ((y.num.sign) * (tb)))), (7, .int (iZ (rc))), (6, .int (iZ ((y.num.sign) * (tb)))), (5, .int (iZ (x.num.sign))), (0, .ref (mo)), (1, .int (iZ (((f : Nat) : Int)))), (2, .int (iZ (((o1 : Nat) : Int)))), (3, .int (iZ (((o2 : Nat) : Int)))), (4, .int (iZ (tb)))]) hx hb dX11_sum_124 hl (by decide) rfl (fun ls hl => ?_)
        refine lv_goto (tgt := 167) hx hb dX11_sum_126 (by decide) ?_
        have hzz : (x.num.sign ≠ 0 ∧ (y.num.sign) * (tb) = x.num.sign) ∨ (x.num.sign = 0 ∧ (y.num.sign) * (tb) = y.num.sign * tb) := by first | exact Or.inl ⟨by omega, rfl⟩ | exact Or.inr ⟨by omega, rfl⟩
        exact jn ((y.num.sign) * (tb)) (x.num.natAbs * y.den + y.num.natAbs * x.den) G3 L3 T3 H locs ls (fun s h => (hk2 s h).trans (hG3k s (by omega) (by omega))) hG3n ((hG3k 185 (by decide) (by decide)).n hnT) (by rw [hx_ps]; have := hx_p_pos (a9 + b9); omega) (by rw [Int.natCast_add]; exact md_sum1 (fun q => by rw [q, Nat.zero_mul]; rfl) (fun q => by rw [q, Nat.zero_mul]; rfl) htb (by omega) rfl _ hzz) (md_sum3 htb _ (fun q => by rw [q, Nat.zero_mul]) (fun q => by rw [q, Nat.zero_mul]) hzz) hP hD hS (lv_sub hl [0, 4, 5, 6, 7, 8] rfl)
      · refine lv_iload hx hb dX11_sum_117 (lv_at hl 3 rfl) ?_
        refine lv_goto (tgt := 124) hx hb dX11_sum_119 (by decide) ?_
        refine lv_istore (lv' := [(8, .int (iZ (x.num.sign))), (7, .int (iZ (rc))), (6, .int (iZ ((y.num.sign) * (tb)))), (5, .int (iZ (x.num.sign))), (0, .ref (mo)), (1, .int (iZ (((f : Nat) : Int)))), (2, .int (iZ (((o1 : Nat) : Int)))), (3, .int (iZ (((o2 : Nat) : Int)))), (4, .int (iZ (tb)))]) hx hb dX11_sum_124 hl (by decide) rfl (fun ls hl => ?_)
        refine lv_goto (tgt := 167) hx hb dX11_sum_126 (by decide) ?_
        have hzz : (x.num.sign ≠ 0 ∧ x.num.sign = x.num.sign) ∨ (x.num.sign = 0 ∧ x.num.sign = y.num.sign * tb) := by first | exact Or.inl ⟨by omega, rfl⟩ | exact Or.inr ⟨by omega, rfl⟩
        exact jn (x.num.sign) (x.num.natAbs * y.den + y.num.natAbs * x.den) G3 L3 T3 H locs ls (fun s h => (hk2 s h).trans (hG3k s (by omega) (by omega))) hG3n ((hG3k 185 (by decide) (by decide)).n hnT) (by rw [hx_ps]; have := hx_p_pos (a9 + b9); omega) (by rw [Int.natCast_add]; exact md_sum1 (fun q => by rw [q, Nat.zero_mul]; rfl) (fun q => by rw [q, Nat.zero_mul]; rfl) htb (by omega) rfl _ hzz) (md_sum3 htb _ (fun q => by rw [q, Nat.zero_mul]) (fun q => by rw [q, Nat.zero_mul]) hzz) hP hD hS (lv_sub hl [0, 4, 5, 6, 7, 8] rfl)
    · refine lv_iload hx hb dX11_sum_94 (lv_at hl 2 rfl) ?_
      refine zr_if_ne hx hb 129 ⟨by omega, by omega⟩ dX11_sum_96 (by decide) (fun h_96 => ?_) (fun h_96 => ?_)
      · refine lv_iload hx hb dX11_sum_129 (lv_at hl 1 rfl) ?_
        refine zr_if_lt hx hb 150 ⟨by omega, by omega⟩ dX11_sum_131 (by decide) (fun h_131 => ?_) (fun h_131 => ?_)
        · refine lv_aload_n hx hb dX11_sum_150 rfl (lv_at hl 4 rfl) ?_
          refine lv_sipush (v := iZ 184) hx hb dX11_sum_151 (by decide) ?_
          refine zr_eqi (((184 : Nat) : Int)) (by rfl) ?_
          refine lv_sipush (v := iZ 187) hx hb dX11_sum_154 (by decide) ?_
          refine zr_eqi (((187 : Nat) : Int)) (by rfl) ?_
          refine lv_sipush (v := iZ 186) hx hb dX11_sum_157 (by decide) ?_
          refine zr_eqi (((186 : Nat) : Int)) (by rfl) ?_
          refine zc_Vv (As := [.int (iZ (((184 : Nat) : Int))), .int (iZ (((187 : Nat) : Int))), .int (iZ (((186 : Nat) : Int)))]) (rest := []) (wr := [(sg, aI cI (90) (Sg)), (bl, aI cI (1300) (B0))]) ⟨hx, hb, hml, hown, hts⟩ (c_mless l D cI cJ cE cF cR mo fg le sg tp bl pr rs n dn sv rk tn ms th 184 187 186 (a9 + b9) G2 L2 T2 ((y.num.natAbs * x.den : Nat) : Int) ((x.num.natAbs * y.den : Nat) : Int) (by decide) (by decide) (by decide) hnV hnU (by omega) hVb (Nat.le_trans (show a9 + b9 ≤ 1200 by omega) (mdC_w (by decide)))) (cwV 3 hts gX11_sum_X11_less rfl rfl rfl (by decide +kernel) ⟨Nat.le_of_ble_eq_true rfl, Nat.le_of_ble_eq_true rfl⟩) hN hK hP hD hS hA [0, 1, 2, 4] [3, 5] rfl rfl (by decide) (by decide) (by decide) (q0 := 0) (ci := 11) rfl rfl rfl rfl hl.1 (Nat.le_of_ble_eq_true rfl) dX11_sum_160 ⟨by decide, by decide⟩ (fun w1 H locs hp hP hD hS => ?_)
          obtain ⟨G3, L3, T3, hw9, hG3⟩ := hp
          subst hw9
          have hG3k := hG3.1
          have hG3n := hG3.2
          have hlt9 : x.num.natAbs * y.den ≤ y.num.natAbs * x.den := by omega
          rw [← Int.natCast_sub hlt9] at hG3n
          have hP := hP.sub (ws' := [(mo, mo_ fg le sg tp bl pr rs (n) (dn) (sv) (rk) (tn) (ms) (th)), (fg, aI cI (52200) (G3)), (le, aI cI (190) (L3)), (sg, aI cI (90) (Sg)), (tp, aI cI (1300) (T3)), (bl, aI cI (1300) (B0))]) [2, 3, 4, 0, 5, 1] rfl
          have hD := hD.sub (ws' := [(mo, mo_ fg le sg tp bl pr rs (n) (dn) (sv) (rk) (tn) (ms) (th)), (fg, aI cI (52200) (G3)), (le, aI cI (190) (L3)), (sg, aI cI (90) (Sg)), (tp, aI cI (1300) (T3)), (bl, aI cI (1300) (B0))]) [2, 3, 4, 0, 5, 1] (by decide) rfl
          refine lv_iload hx hb dX11_sum_163 (lv_at hl 2 rfl) ?_
          refine lv_istore (lv' := [(8, .int (iZ ((y.num.sign) * (tb)))), (7, .int (iZ (rc))), (6, .int (iZ ((y.num.sign) * (tb)))), (5, .int (iZ (x.num.sign))), (0, .ref (mo)), (1, .int (iZ (((f : Nat) : Int)))), (2, .int (iZ (((o1 : Nat) : Int)))), (3, .int (iZ (((o2 : Nat) : Int)))), (4, .int (iZ (tb)))]) hx hb dX11_sum_165 hl (by decide) rfl (fun ls hl => ?_)
          exact jn ((y.num.sign) * (tb)) (y.num.natAbs * x.den - x.num.natAbs * y.den) G3 L3 T3 H locs ls (fun s h => (hk2 s h).trans (hG3k s (by omega) (by omega))) hG3n ((hG3k 185 (by decide) (by decide)).n hnT) (by rw [hx_ps]; have := hx_p_pos (a9 + b9); omega) (by rw [Int.natCast_sub hlt9]; exact (md_sum2 htb (by omega) (by omega) (by omega)).2.1) (fun _ => (md_sum2 (U := 0) (V := 0) (x := x) (y := y) htb (by omega) (by omega) (by omega)).2.2.2) hP hD hS (lv_sub hl [0, 4, 5, 6, 7, 8] rfl)
        · refine lv_aload_n hx hb dX11_sum_134 rfl (lv_at hl 4 rfl) ?_
          refine lv_sipush (v := iZ 184) hx hb dX11_sum_135 (by decide) ?_
          refine zr_eqi (((184 : Nat) : Int)) (by rfl) ?_
          refine lv_sipush (v := iZ 186) hx hb dX11_sum_138 (by decide) ?_
          refine zr_eqi (((186 : Nat) : Int)) (by rfl) ?_
          refine lv_sipush (v := iZ 187) hx hb dX11_sum_141 (by decide) ?_
          refine zr_eqi (((187 : Nat) : Int)) (by rfl) ?_
          refine zc_Vv (As := [.int (iZ (((184 : Nat) : Int))), .int (iZ (((186 : Nat) : Int))), .int (iZ (((187 : Nat) : Int)))]) (rest := []) (wr := [(sg, aI cI (90) (Sg)), (bl, aI cI (1300) (B0))]) ⟨hx, hb, hml, hown, hts⟩ (c_mless l D cI cJ cE cF cR mo fg le sg tp bl pr rs n dn sv rk tn ms th 184 186 187 (a9 + b9) G2 L2 T2 ((x.num.natAbs * y.den : Nat) : Int) ((y.num.natAbs * x.den : Nat) : Int) (by decide) (by decide) (by decide) hnU hnV (by omega) hUb (Nat.le_trans (show a9 + b9 ≤ 1200 by omega) (mdC_w (by decide)))) (cwV 3 hts gX11_sum_X11_less rfl rfl rfl (by decide +kernel) ⟨Nat.le_of_ble_eq_true rfl, Nat.le_of_ble_eq_true rfl⟩) hN hK hP hD hS hA [0, 1, 2, 4] [3, 5] rfl rfl (by decide) (by decide) (by decide) (q0 := 0) (ci := 11) rfl rfl rfl rfl hl.1 (Nat.le_of_ble_eq_true rfl) dX11_sum_144 ⟨by decide, by decide⟩ (fun w1 H locs hp hP hD hS => ?_)
          obtain ⟨G3, L3, T3, hw9, hG3⟩ := hp
          subst hw9
          have hG3k := hG3.1
          have hG3n := hG3.2
          have hlt9 : y.num.natAbs * x.den ≤ x.num.natAbs * y.den := by omega
          rw [← Int.natCast_sub hlt9] at hG3n
          have hP := hP.sub (ws' := [(mo, mo_ fg le sg tp bl pr rs (n) (dn) (sv) (rk) (tn) (ms) (th)), (fg, aI cI (52200) (G3)), (le, aI cI (190) (L3)), (sg, aI cI (90) (Sg)), (tp, aI cI (1300) (T3)), (bl, aI cI (1300) (B0))]) [2, 3, 4, 0, 5, 1] rfl
          have hD := hD.sub (ws' := [(mo, mo_ fg le sg tp bl pr rs (n) (dn) (sv) (rk) (tn) (ms) (th)), (fg, aI cI (52200) (G3)), (le, aI cI (190) (L3)), (sg, aI cI (90) (Sg)), (tp, aI cI (1300) (T3)), (bl, aI cI (1300) (B0))]) [2, 3, 4, 0, 5, 1] (by decide) rfl
          refine lv_goto (tgt := 167) hx hb dX11_sum_147 (by decide) ?_
          exact jn (x.num.sign) (x.num.natAbs * y.den - y.num.natAbs * x.den) G3 L3 T3 H locs ls (fun s h => (hk2 s h).trans (hG3k s (by omega) (by omega))) hG3n ((hG3k 185 (by decide) (by decide)).n hnT) (by rw [hx_ps]; have := hx_p_pos (a9 + b9); omega) (by rw [Int.natCast_sub hlt9]; exact (md_sum2 htb (by omega) (by omega) (by omega)).1) (fun _ => (md_sum2 (U := 0) (V := 0) (x := x) (y := y) htb (by omega) (by omega) (by omega)).2.2.1) hP hD hS (lv_sub hl [0, 4, 5, 6, 7, 8] rfl)
      · refine lv_aload_n hx hb dX11_sum_99 rfl (lv_at hl 4 rfl) ?_
        refine lv_sipush (v := iZ 184) hx hb dX11_sum_100 (by decide) ?_
        refine zr_eqi (((184 : Nat) : Int)) (by rfl) ?_
        refine lv_sipush (v := iZ 186) hx hb dX11_sum_103 (by decide) ?_
        refine zr_eqi (((186 : Nat) : Int)) (by rfl) ?_
        refine lv_sipush (v := iZ 187) hx hb dX11_sum_106 (by decide) ?_
        refine zr_eqi (((187 : Nat) : Int)) (by rfl) ?_
        refine zc_Vv (As := [.int (iZ (((184 : Nat) : Int))), .int (iZ (((186 : Nat) : Int))), .int (iZ (((187 : Nat) : Int)))]) (rest := []) (wr := [(sg, aI cI (90) (Sg)), (bl, aI cI (1300) (B0))]) ⟨hx, hb, hml, hown, hts⟩ (c_madd l D cI cJ cE cF cR mo fg le sg tp bl pr rs n dn sv rk tn ms th 184 186 187 (a9 + b9) G2 L2 T2 ((x.num.natAbs * y.den : Nat) : Int) ((y.num.natAbs * x.den : Nat) : Int) (by decide) (by decide) (by decide) hnU hnV hUb hVb (Nat.le_trans hab (mdC_w (by decide)))) (cwV 3 hts gX11_sum_X11_add rfl rfl rfl (by decide +kernel) ⟨Nat.le_of_ble_eq_true rfl, Nat.le_of_ble_eq_true rfl⟩) hN hK hP hD hS hA [0, 1, 2, 4] [3, 5] rfl rfl (by decide) (by decide) (by decide) (q0 := 0) (ci := 11) rfl rfl rfl rfl hl.1 (Nat.le_of_ble_eq_true rfl) dX11_sum_109 ⟨by decide, by decide⟩ (fun w1 H locs hp hP hD hS => ?_)
        obtain ⟨G3, L3, T3, hw9, hG3⟩ := hp
        subst hw9
        have hG3k := hG3.1
        have hG3n := hG3.2
        rw [← Int.natCast_add] at hG3n
        have hP := hP.sub (ws' := [(mo, mo_ fg le sg tp bl pr rs (n) (dn) (sv) (rk) (tn) (ms) (th)), (fg, aI cI (52200) (G3)), (le, aI cI (190) (L3)), (sg, aI cI (90) (Sg)), (tp, aI cI (1300) (T3)), (bl, aI cI (1300) (B0))]) [2, 3, 4, 0, 5, 1] rfl
        have hD := hD.sub (ws' := [(mo, mo_ fg le sg tp bl pr rs (n) (dn) (sv) (rk) (tn) (ms) (th)), (fg, aI cI (52200) (G3)), (le, aI cI (190) (L3)), (sg, aI cI (90) (Sg)), (tp, aI cI (1300) (T3)), (bl, aI cI (1300) (B0))]) [2, 3, 4, 0, 5, 1] (by decide) rfl
        refine lv_iload hx hb dX11_sum_112 (lv_at hl 3 rfl) ?_
        refine zr_if_eq hx hb 122 ⟨by omega, by omega⟩ dX11_sum_114 (by decide) (fun h_114 => ?_) (fun h_114 => ?_)
        · refine lv_iload hx hb dX11_sum_122 (lv_at hl 2 rfl) ?_
          refine lv_istore (lv' := [(8, .int (iZ ((y.num.sign) * (tb)))), (7, .int (iZ (rc))), (6, .int (iZ ((y.num.sign) * (tb)))), (5, .int (iZ (x.num.sign))), (0, .ref (mo)), (1, .int (iZ (((f : Nat) : Int)))), (2, .int (iZ (((o1 : Nat) : Int)))), (3, .int (iZ (((o2 : Nat) : Int)))), (4, .int (iZ (tb)))]) hx hb dX11_sum_124 hl (by decide) rfl (fun ls hl => ?_)
          refine lv_goto (tgt := 167) hx hb dX11_sum_126 (by decide) ?_
          have hzz : (x.num.sign ≠ 0 ∧ (y.num.sign) * (tb) = x.num.sign) ∨ (x.num.sign = 0 ∧ (y.num.sign) * (tb) = y.num.sign * tb) := by first | exact Or.inl ⟨by omega, rfl⟩ | exact Or.inr ⟨by omega, rfl⟩
          exact jn ((y.num.sign) * (tb)) (x.num.natAbs * y.den + y.num.natAbs * x.den) G3 L3 T3 H locs ls (fun s h => (hk2 s h).trans (hG3k s (by omega) (by omega))) hG3n ((hG3k 185 (by decide) (by decide)).n hnT) (by rw [hx_ps]; have := hx_p_pos (a9 + b9); omega) (by rw [Int.natCast_add]; exact md_sum1 (fun q => by rw [q, Nat.zero_mul]; rfl) (fun q => by rw [q, Nat.zero_mul]; rfl) htb (by omega) rfl _ hzz) (md_sum3 htb _ (fun q => by rw [q, Nat.zero_mul]) (fun q => by rw [q, Nat.zero_mul]) hzz) hP hD hS (lv_sub hl [0, 4, 5, 6, 7, 8] rfl)
        · refine lv_iload hx hb dX11_sum_117 (lv_at hl 3 rfl) ?_
          refine lv_goto (tgt := 124) hx hb dX11_sum_119 (by decide) ?_
          refine lv_istore (lv' := [(8, .int (iZ (x.num.sign))), (7, .int (iZ (rc))), (6, .int (iZ ((y.num.sign) * (tb)))), (5, .int (iZ (x.num.sign))), (0, .ref (mo)), (1, .int (iZ (((f : Nat) : Int)))), (2, .int (iZ (((o1 : Nat) : Int)))), (3, .int (iZ (((o2 : Nat) : Int)))), (4, .int (iZ (tb)))]) hx hb dX11_sum_124 hl (by decide) rfl (fun ls hl => ?_)
          refine lv_goto (tgt := 167) hx hb dX11_sum_126 (by decide) ?_
          have hzz : (x.num.sign ≠ 0 ∧ x.num.sign = x.num.sign) ∨ (x.num.sign = 0 ∧ x.num.sign = y.num.sign * tb) := by first | exact Or.inl ⟨by omega, rfl⟩ | exact Or.inr ⟨by omega, rfl⟩
          exact jn (x.num.sign) (x.num.natAbs * y.den + y.num.natAbs * x.den) G3 L3 T3 H locs ls (fun s h => (hk2 s h).trans (hG3k s (by omega) (by omega))) hG3n ((hG3k 185 (by decide) (by decide)).n hnT) (by rw [hx_ps]; have := hx_p_pos (a9 + b9); omega) (by rw [Int.natCast_add]; exact md_sum1 (fun q => by rw [q, Nat.zero_mul]; rfl) (fun q => by rw [q, Nat.zero_mul]; rfl) htb (by omega) rfl _ hzz) (md_sum3 htb _ (fun q => by rw [q, Nat.zero_mul]) (fun q => by rw [q, Nat.zero_mul]) hzz) hP hD hS (lv_sub hl [0, 4, 5, 6, 7, 8] rfl)

set_option maxHeartbeats 4000000 in
set_option maxRecDepth 100000 in
/-- Model.isSame -/
theorem c_misSame (l : Launch) (D : va_G) (cI cJ cE cF cR : ClassId) (mo fg le sg tp bl pr rs : Nat) (n dn sv rk tn ms th : Int) (o1 o2 : Nat) (F Ln Sg : Nat → Int) (x y : Rat) (ho1 : o1 < 90) (ho2 : o2 < 90) (hx9 : md_f F Ln Sg o1 x) (hy9 : md_f F Ln Sg o2 y) : Ci l D (zty cI cJ cE cF cR) yX11_isSame wsX11_isSame (zRm 2 50) 0 0 [.ref (mo), .int (iZ (((o1 : Nat) : Int))), .int (iZ (((o2 : Nat) : Int)))] [(mo, mo_ fg le sg tp bl pr rs (n) (dn) (sv) (rk) (tn) (ms) (th)), (fg, aI cI (52200) (F)), (le, aI cI (190) (Ln)), (sg, aI cI (90) (Sg))] (fun r w1 => w1 = [(mo, mo_ fg le sg tp bl pr rs (n) (dn) (sv) (rk) (tn) (ms) (th)), (fg, aI cI (52200) (F)), (le, aI cI (190) (Ln)), (sg, aI cI (90) (Sg))] ∧ r = if x = y then 1 else 0) := by
  unfold Ci
  refine zs (Qc := zQi D _ _) (cc := cX11_isSame) (maxL := 3) (ret := (some .boolean)) (by decide) rfl (Nat.le_of_ble_eq_true rfl) ?_
  intro zp ze s zm below meth zc ls A args Q hQ hx hb hr hts hown hlk hml hnm hN hA hK hP hD hS hl
  have q_f_RX11_17_LimbSolverModel_sign_I := hts (.fieldLink RX11 17 "LimbSolverModel" "sign" "[I") (by decide +kernel)
  have hin11 : ∀ w ∈ wsX110, w ∈ wsX11_isSame := by decide +kernel
  have hl : lv_has ls 3 [(0, .ref (mo)), (1, .int (iZ (((o1 : Nat) : Int)))), (2, .int (iZ (((o2 : Nat) : Int))))] := hl
  have hsx := md_sg (x := x)
  have hsy := md_sg (x := y)
  refine lv_aload_n hx hb dX11_isSame_0 rfl (lv_at hl 0 rfl) ?_
  refine va_get (D := D) (ci := 11) (v := .ref (sg)) (C := RX11) (T := TX11) (N := 14) hx hb hts hin11 hown hK hP 0 rfl rfl 2 (by decide) q_f_RX11_17_LimbSolverModel_sign_I (fun _ h9 => h9) rfl dX11_isSame_1 ?_
  refine lv_iload_n hx hb dX11_isSame_4 rfl (lv_at hl 1 rfl) ?_
  refine zr_iald hx hb hK hP 3 0 rfl rfl (o1) (by omega) (by omega) (by omega) dX11_isSame_5 ?_
  refine zr_eqi x.num.sign hx9.1 ?_
  refine lv_aload_n hx hb dX11_isSame_6 rfl (lv_at hl 0 rfl) ?_
  refine va_get (D := D) (ci := 11) (v := .ref (sg)) (C := RX11) (T := TX11) (N := 14) hx hb hts hin11 hown hK hP 0 rfl rfl 2 (by decide) q_f_RX11_17_LimbSolverModel_sign_I (fun _ h9 => h9) rfl dX11_isSame_7 ?_
  refine lv_iload_n hx hb dX11_isSame_10 rfl (lv_at hl 2 rfl) ?_
  refine zr_iald hx hb hK hP 3 0 rfl rfl (o2) (by omega) (by omega) (by omega) dX11_isSame_11 ?_
  refine zr_eqi y.num.sign hy9.1 ?_
  refine zr_icmp_ne hx hb 49 ⟨by omega, by omega⟩ ⟨by omega, by omega⟩ dX11_isSame_12 (by decide) (fun h_12 => ?_) (fun h_12 => ?_)
  · refine lv_iconst (v := iZ 0) hx hb dX11_isSame_49 rfl ?_
    exact zr_zret hQ hx hb hr hlk dX11_isSame_50 hK hP hD hS (by omega) (by omega) (by omega) (⟨rfl, by rw [if_neg (fun q => by have := md_same.mp q; omega)]⟩)
  · refine lv_aload_n hx hb dX11_isSame_15 rfl (lv_at hl 0 rfl) ?_
    refine lv_iconst (v := iZ 2) hx hb dX11_isSame_16 rfl ?_
    refine lv_iload_n hx hb dX11_isSame_17 rfl (lv_at hl 1 rfl) ?_
    refine zr_imul hx hb dX11_isSame_18 ?_
    refine zr_eqi (((2 * o1 : Nat) : Int)) (by omega) ?_
    refine lv_iconst (v := iZ 2) hx hb dX11_isSame_19 rfl ?_
    refine lv_iload_n hx hb dX11_isSame_20 rfl (lv_at hl 2 rfl) ?_
    refine zr_imul hx hb dX11_isSame_21 ?_
    refine zr_eqi (((2 * o2 : Nat) : Int)) (by omega) ?_
    refine zc_Vi (As := [.int (iZ (((2 * o1 : Nat) : Int))), .int (iZ (((2 * o2 : Nat) : Int)))]) (rest := []) (wr := [(sg, aI cI (90) (Sg))]) ⟨hx, hb, hml, hown, hts⟩ (c_mcompare l D cI cJ cE cF cR mo fg le sg tp bl pr rs n dn sv rk tn ms th (2 * o1) (2 * o2) F Ln ((x.num.natAbs : Nat) : Int) ((y.num.natAbs : Nat) : Int) (by omega) (by omega) hx9.2.1 hy9.2.1) (cwV 2 hts gX11_isSame_X11_compare rfl rfl rfl (by decide +kernel) ⟨Nat.le_of_ble_eq_true rfl, Nat.le_of_ble_eq_true rfl⟩) hN hK hP hD hS hA [0, 1, 2] [3] rfl rfl (by decide) (by decide) (by decide) (q0 := 0) (ci := 11) rfl rfl rfl rfl hl.1 (Nat.le_of_ble_eq_true rfl) dX11_isSame_22 ⟨by decide, by decide⟩ (fun r1 w1 H locs hz22 hp hP hD hS => ?_)
    obtain ⟨hw9, hc1⟩ := hp
    subst hw9
    have hP := hP.sub (ws' := [(mo, mo_ fg le sg tp bl pr rs (n) (dn) (sv) (rk) (tn) (ms) (th)), (fg, aI cI (52200) (F)), (le, aI cI (190) (Ln)), (sg, aI cI (90) (Sg))]) [1, 2, 3, 0] rfl
    have hD := hD.sub (ws' := [(mo, mo_ fg le sg tp bl pr rs (n) (dn) (sv) (rk) (tn) (ms) (th)), (fg, aI cI (52200) (F)), (le, aI cI (190) (Ln)), (sg, aI cI (90) (Sg))]) [1, 2, 3, 0] (by decide) rfl
    refine zr_if_ne hx hb 49 ⟨by omega, by omega⟩ dX11_isSame_25 (by decide) (fun h_25 => ?_) (fun h_25 => ?_)
    · refine lv_iconst (v := iZ 0) hx hb dX11_isSame_49 rfl ?_
      exact zr_zret hQ hx hb hr hlk dX11_isSame_50 hK hP hD hS (by omega) (by omega) (by omega) (⟨rfl, by rw [if_neg (fun q => by have := md_same.mp q; omega)]⟩)
    · refine lv_aload_n hx hb dX11_isSame_28 rfl (lv_at hl 0 rfl) ?_
      refine lv_iconst (v := iZ 2) hx hb dX11_isSame_29 rfl ?_
      refine lv_iload_n hx hb dX11_isSame_30 rfl (lv_at hl 1 rfl) ?_
      refine zr_imul hx hb dX11_isSame_31 ?_
      refine lv_iconst (v := iZ 1) hx hb dX11_isSame_32 rfl ?_
      refine zr_iadd hx hb dX11_isSame_33 ?_
      refine zr_eqi (((2 * o1 + 1 : Nat) : Int)) (by omega) ?_
      refine lv_iconst (v := iZ 2) hx hb dX11_isSame_34 rfl ?_
      refine lv_iload_n hx hb dX11_isSame_35 rfl (lv_at hl 2 rfl) ?_
      refine zr_imul hx hb dX11_isSame_36 ?_
      refine lv_iconst (v := iZ 1) hx hb dX11_isSame_37 rfl ?_
      refine zr_iadd hx hb dX11_isSame_38 ?_
      refine zr_eqi (((2 * o2 + 1 : Nat) : Int)) (by omega) ?_
      refine zc_Vi (As := [.int (iZ (((2 * o1 + 1 : Nat) : Int))), .int (iZ (((2 * o2 + 1 : Nat) : Int)))]) (rest := []) (wr := [(sg, aI cI (90) (Sg))]) ⟨hx, hb, hml, hown, hts⟩ (c_mcompare l D cI cJ cE cF cR mo fg le sg tp bl pr rs n dn sv rk tn ms th (2 * o1 + 1) (2 * o2 + 1) F Ln ((x.den : Nat) : Int) ((y.den : Nat) : Int) (by omega) (by omega) hx9.2.2 hy9.2.2) (cwV 2 hts gX11_isSame_X11_compare rfl rfl rfl (by decide +kernel) ⟨Nat.le_of_ble_eq_true rfl, Nat.le_of_ble_eq_true rfl⟩) hN hK hP hD hS hA [0, 1, 2] [3] rfl rfl (by decide) (by decide) (by decide) (q0 := 0) (ci := 11) rfl rfl rfl rfl hl.1 (Nat.le_of_ble_eq_true rfl) dX11_isSame_39 ⟨by decide, by decide⟩ (fun r2 w1 H locs hz39 hp hP hD hS => ?_)
      obtain ⟨hw9, hc2⟩ := hp
      subst hw9
      have hP := hP.sub (ws' := [(mo, mo_ fg le sg tp bl pr rs (n) (dn) (sv) (rk) (tn) (ms) (th)), (fg, aI cI (52200) (F)), (le, aI cI (190) (Ln)), (sg, aI cI (90) (Sg))]) [1, 2, 3, 0] rfl
      have hD := hD.sub (ws' := [(mo, mo_ fg le sg tp bl pr rs (n) (dn) (sv) (rk) (tn) (ms) (th)), (fg, aI cI (52200) (F)), (le, aI cI (190) (Ln)), (sg, aI cI (90) (Sg))]) [1, 2, 3, 0] (by decide) rfl
      refine zr_if_ne hx hb 49 ⟨by omega, by omega⟩ dX11_isSame_42 (by decide) (fun h_42 => ?_) (fun h_42 => ?_)
      · refine lv_iconst (v := iZ 0) hx hb dX11_isSame_49 rfl ?_
        exact zr_zret hQ hx hb hr hlk dX11_isSame_50 hK hP hD hS (by omega) (by omega) (by omega) (⟨rfl, by rw [if_neg (fun q => by have := md_same.mp q; omega)]⟩)
      · refine lv_iconst (v := iZ 1) hx hb dX11_isSame_45 rfl ?_
        refine lv_goto (tgt := 50) hx hb dX11_isSame_46 (by decide) ?_
        exact zr_zret hQ hx hb hr hlk dX11_isSame_50 hK hP hD hS (by omega) (by omega) (by omega) (⟨rfl, by rw [if_pos (md_same.mpr ⟨by omega, by omega, by omega⟩)]⟩)

set_option maxHeartbeats 4000000 in
set_option maxRecDepth 100000 in
/-- Model.part -/
theorem c_mpart (l : Launch) (D : va_G) (cI cJ cE cF cR : ClassId) (mo fg le sg tp bl pr rs : Nat) (n dn sv rk tn ms th : Int) (o1 : Nat) (wh z : Int) (F Ln Sg : Nat → Int) (x : Rat) (ho1 : o1 < 90) (hwh : iR wh) (hz0 : iR z) (hx9 : md_f F Ln Sg o1 x) : Ci l D (zty cI cJ cE cF cR) yX11_part wsX11_part (zRm 1 25) 0 0 [.ref (mo), .int (iZ (((o1 : Nat) : Int))), .int (iZ (wh)), .int (iZ (z))] [(mo, mo_ fg le sg tp bl pr rs (n) (dn) (sv) (rk) (tn) (ms) (th)), (fg, aI cI (52200) (F)), (le, aI cI (190) (Ln)), (sg, aI cI (90) (Sg))] (fun r w1 => w1 = [(mo, mo_ fg le sg tp bl pr rs (n) (dn) (sv) (rk) (tn) (ms) (th)), (fg, aI cI (52200) (F)), (le, aI cI (190) (Ln)), (sg, aI cI (90) (Sg))] ∧ bg_tl x.num.sign ((x.num.natAbs : Nat) : Int) ((x.den : Nat) : Int) wh z r) := by
  unfold Ci
  refine zs (Qc := zQi D _ _) (cc := cX11_part) (maxL := 5) (ret := (some .int)) (by decide) rfl (Nat.le_of_ble_eq_true rfl) ?_
  intro zp ze s zm below meth zc ls A args Q hQ hx hb hr hts hown hlk hml hnm hN hA hK hP hD hS hl
  have q_f_RX11_14_LimbSolverModel_length_I := hts (.fieldLink RX11 14 "LimbSolverModel" "length" "[I") (by decide +kernel)
  have hin11 : ∀ w ∈ wsX110, w ∈ wsX11_part := by decide +kernel
  have q_f_RX11_8_LimbSolverModel_figure_I := hts (.fieldLink RX11 8 "LimbSolverModel" "figure" "[I") (by decide +kernel)
  have q_f_RX11_17_LimbSolverModel_sign_I := hts (.fieldLink RX11 17 "LimbSolverModel" "sign" "[I") (by decide +kernel)
  have hl : lv_has ls 5 [(0, .ref (mo)), (1, .int (iZ (((o1 : Nat) : Int)))), (2, .int (iZ (wh))), (3, .int (iZ (z)))] := hl
  have hsx := md_sg (x := x)
  obtain ⟨kn, hkn, hokn⟩ := hx9.2.1
  obtain ⟨kd, hkd, hokd⟩ := hx9.2.2
  have hln := md_len hx9.2.1
  have hld := md_len hx9.2.2
  have hcn := mdC_b (2 * o1)
  have hcd := mdC_b (2 * o1 + 1)
  have hAn := mdA_b (show 2 * o1 < 188 by omega)
  have hAd := mdA_b (show 2 * o1 + 1 < 188 by omega)
  obtain rfl : kn = lcn x.num.natAbs := lcn_u rfl (hx_lc hokn)
  obtain rfl : kd = lcn x.den := lcn_u rfl (hx_lc hokd)
  have hdn9 : ∀ i : Nat, i < lcn x.num.natAbs → 0 ≤ F (mdA (2 * o1) + i) ∧ F (mdA (2 * o1) + i) < 65536 := fun i hi => hokn.2.1 i hi
  have hdd9 : ∀ i : Nat, i < lcn x.den → 0 ≤ F (mdA (2 * o1 + 1) + i) ∧ F (mdA (2 * o1 + 1) + i) < 65536 := fun i hi => hokd.2.1 i hi
  refine lv_iload_n hx hb dX11_part_0 rfl (lv_at hl 2 rfl) ?_
  refine zr_if_ne hx hb 11 hwh dX11_part_1 (by decide) (fun h_1 => ?_) (fun h_1 => ?_)
  · refine lv_iload_n hx hb dX11_part_11 rfl (lv_at hl 2 rfl) ?_
    refine lv_iconst (v := iZ 1) hx hb dX11_part_12 rfl ?_
    refine zr_icmp_ne hx hb 22 hwh (by decide) dX11_part_13 (by decide) (fun h_13 => ?_) (fun h_13 => ?_)
    · refine lv_iconst (v := iZ 2) hx hb dX11_part_22 rfl ?_
      refine lv_iload_n hx hb dX11_part_23 rfl (lv_at hl 1 rfl) ?_
      refine zr_imul hx hb dX11_part_24 ?_
      refine lv_iconst (v := iZ 1) hx hb dX11_part_25 rfl ?_
      refine zr_iadd hx hb dX11_part_26 ?_
      refine zr_eqi (((2 * o1 + 1 : Nat) : Int)) (by omega) ?_
      refine lv_istore (lv' := [(4, .int (iZ (((2 * o1 + 1 : Nat) : Int)))), (0, .ref (mo)), (1, .int (iZ (((o1 : Nat) : Int)))), (2, .int (iZ (wh))), (3, .int (iZ (z)))]) hx hb dX11_part_27 hl (by decide) rfl (fun ls hl => ?_)
      refine lv_iload_n hx hb dX11_part_29 rfl (lv_at hl 4 rfl) ?_
      refine lv_iconst (v := iZ (-1)) hx hb dX11_part_30 rfl ?_
      refine zr_icmp_ne hx hb 44 hz0 (by decide) dX11_part_31 (by decide) (fun h_31 => ?_) (fun h_31 => ?_)
      · refine lv_iload_n hx hb dX11_part_44 rfl (lv_at hl 4 rfl) ?_
        refine zr_if_lt hx hb 59 hz0 dX11_part_45 (by decide) (fun h_45 => ?_) (fun h_45 => ?_)
        · refine lv_iconst (v := iZ (-1)) hx hb dX11_part_59 rfl ?_
          refine lv_goto (tgt := 75) hx hb dX11_part_60 (by decide) ?_
          exact zr_iret hQ hx hb hr hlk dX11_part_75 hK hP hD hS (by omega) (by omega) (by first | exact ⟨by omega, by omega⟩ | (have := hdn9 z.toNat (by omega); exact ⟨by omega, by omega⟩) | (have := hdd9 z.toNat (by omega); exact ⟨by omega, by omega⟩) | decide) (⟨rfl, Or.inr ⟨by omega, Or.inr ⟨by omega, by rw [if_neg (by omega)]; exact Or.inl ⟨by first | exact Or.inl (by omega) | exact Or.inr ⟨lcn x.den, lcn_ok _, by omega⟩, rfl⟩⟩⟩⟩)
        · refine lv_iload_n hx hb dX11_part_48 rfl (lv_at hl 4 rfl) ?_
          refine lv_aload_n hx hb dX11_part_49 rfl (lv_at hl 1 rfl) ?_
          refine va_get (D := D) (ci := 11) (v := .ref (le)) (C := RX11) (T := TX11) (N := 14) hx hb hts hin11 hown hK hP 0 rfl rfl 1 (by decide) q_f_RX11_14_LimbSolverModel_length_I (fun _ h9 => h9) rfl dX11_part_50 ?_
          refine lv_iload hx hb dX11_part_53 (lv_at hl 0 rfl) ?_
          refine zr_iald hx hb hK hP 2 0 rfl rfl (2 * o1 + 1) (by omega) (by omega) (by omega) dX11_part_55 ?_
          refine zr_eqi ((lcn x.den : Nat) : Int) hld.1 ?_
          refine zr_icmp_lt hx hb 63 hz0 ⟨by omega, by omega⟩ dX11_part_56 (by decide) (fun h_56 => ?_) (fun h_56 => ?_)
          · refine lv_aload_n hx hb dX11_part_63 rfl (lv_at hl 1 rfl) ?_
            refine va_get (D := D) (ci := 11) (v := .ref (fg)) (C := RX11) (T := TX11) (N := 14) hx hb hts hin11 hown hK hP 0 rfl rfl 0 (by decide) q_f_RX11_8_LimbSolverModel_figure_I (fun _ h9 => h9) rfl dX11_part_64 ?_
            refine lv_iload hx hb dX11_part_67 (lv_at hl 0 rfl) ?_
            refine zc_Si (As := [.int (iZ (((2 * o1 + 1 : Nat) : Int)))]) (rest := [.ref (fg)]) (wr := [(mo, mo_ fg le sg tp bl pr rs (n) (dn) (sv) (rk) (tn) (ms) (th)), (fg, aI cI (52200) (F)), (le, aI cI (190) (Ln)), (sg, aI cI (90) (Sg))]) ⟨hx, hb, hml, hown, hts⟩ (c_at l D cI cJ cE cF cR (2 * o1 + 1) (by omega)) (va_cwS 1 hts gX11_part_X11_at rfl rfl rfl (by decide +kernel) ⟨Nat.le_of_ble_eq_true rfl, Nat.le_of_ble_eq_true rfl⟩) hN hK hP hD hS hA [] [0, 1, 2, 3] rfl rfl (by decide) (by decide) (by decide) rfl hl.1 (Nat.le_of_ble_eq_true rfl) dX11_part_69 ⟨by decide, by decide⟩ (fun z69 w1 H locs hz69 hp hP hD hS => ?_)
            obtain ⟨hw9, hx0⟩ := hp
            subst hw9
            subst hx0
            have hP := hP.sub (ws' := [(mo, mo_ fg le sg tp bl pr rs (n) (dn) (sv) (rk) (tn) (ms) (th)), (fg, aI cI (52200) (F)), (le, aI cI (190) (Ln)), (sg, aI cI (90) (Sg))]) [0, 1, 2, 3] rfl
            have hD := hD.sub (ws' := [(mo, mo_ fg le sg tp bl pr rs (n) (dn) (sv) (rk) (tn) (ms) (th)), (fg, aI cI (52200) (F)), (le, aI cI (190) (Ln)), (sg, aI cI (90) (Sg))]) [0, 1, 2, 3] (by decide) rfl
            refine lv_iload_n hx hb dX11_part_72 rfl (lv_at hl 4 rfl) ?_
            refine zr_iadd hx hb dX11_part_73 ?_
            refine zr_iald hx hb hK hP 1 0 rfl rfl (mdA (2 * o1 + 1) + z.toNat) (by omega) (by omega) (by omega) dX11_part_74 ?_
            exact zr_iret hQ hx hb hr hlk dX11_part_75 hK hP hD hS (by omega) (by omega) (by first | exact ⟨by omega, by omega⟩ | (have := hdn9 z.toNat (by omega); exact ⟨by omega, by omega⟩) | (have := hdd9 z.toNat (by omega); exact ⟨by omega, by omega⟩) | decide) (⟨rfl, Or.inr ⟨by omega, Or.inr ⟨by omega, by rw [if_neg (by omega)]; exact Or.inr ⟨z.toNat, lcn x.den, by omega, lcn_ok _, by omega, hx_digit (g := fun i => F (mdA (2 * o1 + 1) + i)) (k := z.toNat) hokd (by omega)⟩⟩⟩⟩)
          · refine lv_iconst (v := iZ (-1)) hx hb dX11_part_59 rfl ?_
            refine lv_goto (tgt := 75) hx hb dX11_part_60 (by decide) ?_
            exact zr_iret hQ hx hb hr hlk dX11_part_75 hK hP hD hS (by omega) (by omega) (by first | exact ⟨by omega, by omega⟩ | (have := hdn9 z.toNat (by omega); exact ⟨by omega, by omega⟩) | (have := hdd9 z.toNat (by omega); exact ⟨by omega, by omega⟩) | decide) (⟨rfl, Or.inr ⟨by omega, Or.inr ⟨by omega, by rw [if_neg (by omega)]; exact Or.inl ⟨by first | exact Or.inl (by omega) | exact Or.inr ⟨lcn x.den, lcn_ok _, by omega⟩, rfl⟩⟩⟩⟩)
      · refine lv_aload_n hx hb dX11_part_34 rfl (lv_at hl 1 rfl) ?_
        refine va_get (D := D) (ci := 11) (v := .ref (le)) (C := RX11) (T := TX11) (N := 14) hx hb hts hin11 hown hK hP 0 rfl rfl 1 (by decide) q_f_RX11_14_LimbSolverModel_length_I (fun _ h9 => h9) rfl dX11_part_35 ?_
        refine lv_iload hx hb dX11_part_38 (lv_at hl 0 rfl) ?_
        refine zr_iald hx hb hK hP 2 0 rfl rfl (2 * o1 + 1) (by omega) (by omega) (by omega) dX11_part_40 ?_
        refine zr_eqi ((lcn x.den : Nat) : Int) hld.1 ?_
        refine lv_goto (tgt := 75) hx hb dX11_part_41 (by decide) ?_
        exact zr_iret hQ hx hb hr hlk dX11_part_75 hK hP hD hS (by omega) (by omega) (by first | exact ⟨by omega, by omega⟩ | (have := hdn9 z.toNat (by omega); exact ⟨by omega, by omega⟩) | (have := hdd9 z.toNat (by omega); exact ⟨by omega, by omega⟩) | decide) (⟨rfl, Or.inr ⟨by omega, Or.inl ⟨by omega, lcn x.den, rfl, by rw [if_neg (by omega)]; exact lcn_ok _⟩⟩⟩)
    · refine lv_iconst (v := iZ 2) hx hb dX11_part_16 rfl ?_
      refine lv_iload_n hx hb dX11_part_17 rfl (lv_at hl 1 rfl) ?_
      refine zr_imul hx hb dX11_part_18 ?_
      refine zr_eqi (((2 * o1 : Nat) : Int)) (by omega) ?_
      refine lv_goto (tgt := 27) hx hb dX11_part_19 (by decide) ?_
      refine lv_istore (lv' := [(4, .int (iZ (((2 * o1 : Nat) : Int)))), (0, .ref (mo)), (1, .int (iZ (((o1 : Nat) : Int)))), (2, .int (iZ (wh))), (3, .int (iZ (z)))]) hx hb dX11_part_27 hl (by decide) rfl (fun ls hl => ?_)
      refine lv_iload_n hx hb dX11_part_29 rfl (lv_at hl 4 rfl) ?_
      refine lv_iconst (v := iZ (-1)) hx hb dX11_part_30 rfl ?_
      refine zr_icmp_ne hx hb 44 hz0 (by decide) dX11_part_31 (by decide) (fun h_31 => ?_) (fun h_31 => ?_)
      · refine lv_iload_n hx hb dX11_part_44 rfl (lv_at hl 4 rfl) ?_
        refine zr_if_lt hx hb 59 hz0 dX11_part_45 (by decide) (fun h_45 => ?_) (fun h_45 => ?_)
        · refine lv_iconst (v := iZ (-1)) hx hb dX11_part_59 rfl ?_
          refine lv_goto (tgt := 75) hx hb dX11_part_60 (by decide) ?_
          exact zr_iret hQ hx hb hr hlk dX11_part_75 hK hP hD hS (by omega) (by omega) (by first | exact ⟨by omega, by omega⟩ | (have := hdn9 z.toNat (by omega); exact ⟨by omega, by omega⟩) | (have := hdd9 z.toNat (by omega); exact ⟨by omega, by omega⟩) | decide) (⟨rfl, Or.inr ⟨by omega, Or.inr ⟨by omega, by rw [if_pos (by omega)]; exact Or.inl ⟨by first | exact Or.inl (by omega) | exact Or.inr ⟨lcn x.num.natAbs, lcn_ok _, by omega⟩, rfl⟩⟩⟩⟩)
        · refine lv_iload_n hx hb dX11_part_48 rfl (lv_at hl 4 rfl) ?_
          refine lv_aload_n hx hb dX11_part_49 rfl (lv_at hl 1 rfl) ?_
          refine va_get (D := D) (ci := 11) (v := .ref (le)) (C := RX11) (T := TX11) (N := 14) hx hb hts hin11 hown hK hP 0 rfl rfl 1 (by decide) q_f_RX11_14_LimbSolverModel_length_I (fun _ h9 => h9) rfl dX11_part_50 ?_
          refine lv_iload hx hb dX11_part_53 (lv_at hl 0 rfl) ?_
          refine zr_iald hx hb hK hP 2 0 rfl rfl (2 * o1) (by omega) (by omega) (by omega) dX11_part_55 ?_
          refine zr_eqi ((lcn x.num.natAbs : Nat) : Int) hln.1 ?_
          refine zr_icmp_lt hx hb 63 hz0 ⟨by omega, by omega⟩ dX11_part_56 (by decide) (fun h_56 => ?_) (fun h_56 => ?_)
          · refine lv_aload_n hx hb dX11_part_63 rfl (lv_at hl 1 rfl) ?_
            refine va_get (D := D) (ci := 11) (v := .ref (fg)) (C := RX11) (T := TX11) (N := 14) hx hb hts hin11 hown hK hP 0 rfl rfl 0 (by decide) q_f_RX11_8_LimbSolverModel_figure_I (fun _ h9 => h9) rfl dX11_part_64 ?_
            refine lv_iload hx hb dX11_part_67 (lv_at hl 0 rfl) ?_
            refine zc_Si (As := [.int (iZ (((2 * o1 : Nat) : Int)))]) (rest := [.ref (fg)]) (wr := [(mo, mo_ fg le sg tp bl pr rs (n) (dn) (sv) (rk) (tn) (ms) (th)), (fg, aI cI (52200) (F)), (le, aI cI (190) (Ln)), (sg, aI cI (90) (Sg))]) ⟨hx, hb, hml, hown, hts⟩ (c_at l D cI cJ cE cF cR (2 * o1) (by omega)) (va_cwS 1 hts gX11_part_X11_at rfl rfl rfl (by decide +kernel) ⟨Nat.le_of_ble_eq_true rfl, Nat.le_of_ble_eq_true rfl⟩) hN hK hP hD hS hA [] [0, 1, 2, 3] rfl rfl (by decide) (by decide) (by decide) rfl hl.1 (Nat.le_of_ble_eq_true rfl) dX11_part_69 ⟨by decide, by decide⟩ (fun z69 w1 H locs hz69 hp hP hD hS => ?_)
            obtain ⟨hw9, hx0⟩ := hp
            subst hw9
            subst hx0
            have hP := hP.sub (ws' := [(mo, mo_ fg le sg tp bl pr rs (n) (dn) (sv) (rk) (tn) (ms) (th)), (fg, aI cI (52200) (F)), (le, aI cI (190) (Ln)), (sg, aI cI (90) (Sg))]) [0, 1, 2, 3] rfl
            have hD := hD.sub (ws' := [(mo, mo_ fg le sg tp bl pr rs (n) (dn) (sv) (rk) (tn) (ms) (th)), (fg, aI cI (52200) (F)), (le, aI cI (190) (Ln)), (sg, aI cI (90) (Sg))]) [0, 1, 2, 3] (by decide) rfl
            refine lv_iload_n hx hb dX11_part_72 rfl (lv_at hl 4 rfl) ?_
            refine zr_iadd hx hb dX11_part_73 ?_
            refine zr_iald hx hb hK hP 1 0 rfl rfl (mdA (2 * o1) + z.toNat) (by omega) (by omega) (by omega) dX11_part_74 ?_
            exact zr_iret hQ hx hb hr hlk dX11_part_75 hK hP hD hS (by omega) (by omega) (by first | exact ⟨by omega, by omega⟩ | (have := hdn9 z.toNat (by omega); exact ⟨by omega, by omega⟩) | (have := hdd9 z.toNat (by omega); exact ⟨by omega, by omega⟩) | decide) (⟨rfl, Or.inr ⟨by omega, Or.inr ⟨by omega, by rw [if_pos (by omega)]; exact Or.inr ⟨z.toNat, lcn x.num.natAbs, by omega, lcn_ok _, by omega, hx_digit (g := fun i => F (mdA (2 * o1) + i)) (k := z.toNat) hokn (by omega)⟩⟩⟩⟩)
          · refine lv_iconst (v := iZ (-1)) hx hb dX11_part_59 rfl ?_
            refine lv_goto (tgt := 75) hx hb dX11_part_60 (by decide) ?_
            exact zr_iret hQ hx hb hr hlk dX11_part_75 hK hP hD hS (by omega) (by omega) (by first | exact ⟨by omega, by omega⟩ | (have := hdn9 z.toNat (by omega); exact ⟨by omega, by omega⟩) | (have := hdd9 z.toNat (by omega); exact ⟨by omega, by omega⟩) | decide) (⟨rfl, Or.inr ⟨by omega, Or.inr ⟨by omega, by rw [if_pos (by omega)]; exact Or.inl ⟨by first | exact Or.inl (by omega) | exact Or.inr ⟨lcn x.num.natAbs, lcn_ok _, by omega⟩, rfl⟩⟩⟩⟩)
      · refine lv_aload_n hx hb dX11_part_34 rfl (lv_at hl 1 rfl) ?_
        refine va_get (D := D) (ci := 11) (v := .ref (le)) (C := RX11) (T := TX11) (N := 14) hx hb hts hin11 hown hK hP 0 rfl rfl 1 (by decide) q_f_RX11_14_LimbSolverModel_length_I (fun _ h9 => h9) rfl dX11_part_35 ?_
        refine lv_iload hx hb dX11_part_38 (lv_at hl 0 rfl) ?_
        refine zr_iald hx hb hK hP 2 0 rfl rfl (2 * o1) (by omega) (by omega) (by omega) dX11_part_40 ?_
        refine zr_eqi ((lcn x.num.natAbs : Nat) : Int) hln.1 ?_
        refine lv_goto (tgt := 75) hx hb dX11_part_41 (by decide) ?_
        exact zr_iret hQ hx hb hr hlk dX11_part_75 hK hP hD hS (by omega) (by omega) (by first | exact ⟨by omega, by omega⟩ | (have := hdn9 z.toNat (by omega); exact ⟨by omega, by omega⟩) | (have := hdd9 z.toNat (by omega); exact ⟨by omega, by omega⟩) | decide) (⟨rfl, Or.inr ⟨by omega, Or.inl ⟨by omega, lcn x.num.natAbs, rfl, by rw [if_pos (by omega)]; exact lcn_ok _⟩⟩⟩)
  · refine lv_aload_n hx hb dX11_part_4 rfl (lv_at hl 0 rfl) ?_
    refine va_get (D := D) (ci := 11) (v := .ref (sg)) (C := RX11) (T := TX11) (N := 14) hx hb hts hin11 hown hK hP 0 rfl rfl 2 (by decide) q_f_RX11_17_LimbSolverModel_sign_I (fun _ h9 => h9) rfl dX11_part_5 ?_
    refine lv_iload_n hx hb dX11_part_8 rfl (lv_at hl 1 rfl) ?_
    refine zr_iald hx hb hK hP 3 0 rfl rfl (o1) (by omega) (by omega) (by omega) dX11_part_9 ?_
    refine zr_eqi x.num.sign hx9.1 ?_
    exact zr_iret hQ hx hb hr hlk dX11_part_10 hK hP hD hS (by omega) (by omega) ⟨by omega, by omega⟩ (⟨rfl, Or.inl ⟨by omega, rfl⟩⟩)

set_option maxHeartbeats 4000000 in
set_option maxRecDepth 100000 in
/-- Model.place -/
theorem c_place (l : Launch) (D : va_G) (cI cJ cE cF cR : ClassId) (i j : Nat) (hi : i < 1000) (hj : j < 1000) : Ci l D (zty cI cJ cE cF cR) yX11_place wsX11_place (zRm 0 0) 0 0 [.int (iZ (((i : Nat) : Int))), .int (iZ (((j : Nat) : Int)))] [] (fun r w1 => w1 = [] ∧ r = ((7 * i + j : Nat) : Int)) := by
  unfold Ci
  refine zs (Qc := zQi D _ _) (cc := cX11_place) (maxL := 2) (ret := (some .int)) (by decide) rfl (Nat.le_of_ble_eq_true rfl) ?_
  intro zp ze s zm below meth zc ls A args Q hQ hx hb hr hts hown hlk hml hnm hN hA hK hP hD hS hl
  have hl : lv_has ls 2 [(0, .int (iZ (((i : Nat) : Int)))), (1, .int (iZ (((j : Nat) : Int))))] := hl
  refine lv_bipush (v := iZ 7) hx hb dX11_place_0 (by decide) ?_
  refine lv_iload_n hx hb dX11_place_2 rfl (lv_at hl 0 rfl) ?_
  refine zr_imul hx hb dX11_place_3 ?_
  refine lv_iload_n hx hb dX11_place_4 rfl (lv_at hl 1 rfl) ?_
  refine zr_iadd hx hb dX11_place_5 ?_
  refine zr_eqi (((7 * i + j : Nat) : Int)) (by omega) ?_
  exact zr_iret hQ hx hb hr hlk dX11_place_6 hK hP hD hS (by omega) (by omega) ⟨by omega, by omega⟩ (⟨rfl, rfl⟩)
