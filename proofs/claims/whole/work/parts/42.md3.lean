theorem md_cons {g : Nat → Int} {t T : Nat} (z : Int) (h : t + 1 ≤ T) : hx_val (fun j => zu g t z (t + j)) (T - t) = z + 65536 * hx_val (fun j => g (t + 1 + j)) (T - (t + 1)) := by
  have e := hx_val_split (fun j => zu g t z (t + j)) 1 (T - (t + 1))
  rw [show 1 + (T - (t + 1)) = T - t by omega] at e
  rw [e, hx_vs, hx_v0, hx_p0, show hx_p 1 = 65536 from rfl]
  have e3 : zu g t z (t + 0) = z := zu_s g t z
  have e4 : hx_val (fun i => zu g t z (t + (1 + i))) (T - (t + 1)) = hx_val (fun j => g (t + 1 + j)) (T - (t + 1)) := hx_val_congr (fun j _ => by show zu g t z (t + (1 + j)) = g (t + 1 + j); rw [zu_n g z (by omega), Nat.add_assoc])
  rw [e4]
  show 0 + zu g t z (t + 0) * 1 + _ = _
  rw [e3]; omega
theorem md_sd_step {g w : Nat → Int} {t T : Nat} {V d r x : Int} (h : t + 1 ≤ T) (hx : x = r * 65536 + w t) (hv : V = hx_val (fun j => g (t + 1 + j)) (T - (t + 1)) * hx_p (t + 1) * d + r * hx_p (t + 1) + hx_val w (t + 1)) : V = hx_val (fun j => zu g t (x / d) (t + j)) (T - t) * hx_p t * d + (x % d) * hx_p t + hx_val w t := by
  rw [md_cons _ h, hv, hx_ps, hx_vs]
  have e := Int.mul_ediv_add_emod x d
  generalize x / d = q at *
  generalize x % d = r2 at *
  generalize hx_val (fun j => g (t + 1 + j)) (T - (t + 1)) = Q
  grind
theorem md_sd_q {d r x f : Int} (hd : 0 < d) (hr : 0 ≤ r ∧ r < d) (hf : 0 ≤ f ∧ f < 65536) (hx : x = r * 65536 + f) : (0 ≤ x / d ∧ x / d < 65536) ∧ (0 ≤ x % d ∧ x % d < d) := by
  refine ⟨⟨Int.ediv_nonneg (by omega) (by omega), ?_⟩, Int.emod_nonneg _ (by omega), Int.emod_lt_of_pos _ hd⟩
  exact Int.ediv_lt_of_lt_mul hd (by omega)
theorem md_sd_end {V q d r : Int} (hd : 0 < d) (hr : 0 ≤ r ∧ r < d) (h : V = q * d + r) : q = V / d ∧ r = V % d := by
  have h1 : V / d = q := by
    rw [h, Int.add_comm, Int.add_mul_ediv_right _ _ (by omega), Int.ediv_eq_zero_of_lt hr.1 hr.2]; omega
  have h2 : V % d = r := by
    rw [h, Int.add_comm, Int.add_mul_emod_self_right, Int.emod_eq_of_lt hr.1 hr.2]
  exact ⟨h1.symm, h2.symm⟩
theorem tx_step {g u v : Nat → Int} {a i : Nat} {cr b z pp vv : Int} (h : hx_val (fun j => g (a + j)) i - (cr + b) * hx_p i = hx_val (fun j => u (a + j)) i - z * hx_val v i) (hgi : g (a + i) = u (a + i)) (hpp : pp = z * v i + cr) (hvv : vv = g (a + i) - pp % 65536 - b) : hx_val (fun j => zu g (a + i) (vv % 65536) (a + j)) (i + 1) - (pp / 65536 + -(vv / 65536)) * hx_p (i + 1) = hx_val (fun j => u (a + j)) (i + 1) - z * hx_val v (i + 1) := by
  rw [hx_zu_shift, hx_vs, zu_s, hx_zu_lo (Nat.le_refl i), hx_vs, hx_vs, hx_ps]
  have e1 := Int.mul_ediv_add_emod vv 65536
  have e2 := Int.mul_ediv_add_emod pp 65536
  generalize vv / 65536 = q1 at *
  generalize vv % 65536 = d1 at *
  generalize pp / 65536 = q2 at *
  generalize pp % 65536 = d2 at *
  grind
theorem tx_end {g u : Nat → Int} {a L : Nat} {cr b Z vv : Int} (h : hx_val (fun j => g (a + j)) L - (cr + b) * hx_p L = hx_val (fun j => u (a + j)) L - Z) (hgi : g (a + L) = u (a + L)) (hvv : vv = g (a + L) - cr - b) : hx_val (fun j => zu g (a + L) (vv % 65536) (a + j)) (L + 1) + (vv / 65536) * hx_p (L + 1) = hx_val (fun j => u (a + j)) (L + 1) - Z := by
  rw [hx_zu_shift, hx_vs, zu_s, hx_zu_lo (Nat.le_refl L), hx_vs, hx_ps]
  have e1 := Int.mul_ediv_add_emod vv 65536
  generalize vv / 65536 = q1 at *
  generalize vv % 65536 = d1 at *
  grind
theorem gx_step {g u v : Nat → Int} {a i : Nat} {c : Int} (h : hx_val (fun j => g (a + j)) i + c * hx_p i = hx_val (fun j => u (a + j)) i + hx_val v i) (hgi : g (a + i) = u (a + i)) : hx_val (fun j => zu g (a + i) (((g (a + i) + v i) + c) % 65536) (a + j)) (i + 1) + (((g (a + i) + v i) + c) / 65536) * hx_p (i + 1) = hx_val (fun j => u (a + j)) (i + 1) + hx_val v (i + 1) := by
  rw [hx_zu_shift, hx_vs, zu_s, hx_zu_lo (Nat.le_refl i), hx_vs, hx_vs, hx_ps]
  have e1 := Int.mul_ediv_add_emod ((g (a + i) + v i) + c) 65536
  generalize ((g (a + i) + v i) + c) / 65536 = q1 at *
  generalize ((g (a + i) + v i) + c) % 65536 = d1 at *
  grind
theorem gx_end {g u : Nat → Int} {a L : Nat} {c Z : Int} (h : hx_val (fun j => g (a + j)) L + c * hx_p L = hx_val (fun j => u (a + j)) L + Z) (hgi : g (a + L) = u (a + L)) : hx_val (fun j => zu g (a + L) ((g (a + L) + c) % 65536) (a + j)) (L + 1) + ((g (a + L) + c) / 65536) * hx_p (L + 1) = hx_val (fun j => u (a + j)) (L + 1) + Z := by
  rw [hx_zu_shift, hx_vs, zu_s, hx_zu_lo (Nat.le_refl L), hx_vs, hx_ps]
  have e1 := Int.mul_ediv_add_emod (g (a + L) + c) 65536
  generalize (g (a + L) + c) / 65536 = q1 at *
  generalize (g (a + L) + c) % 65536 = d1 at *
  grind
/-- the window after taking z times away and giving one back -/
theorem gx_fin {g : Nat → Int} {L : Nat} {c U V z : Int} (hg : hx_dg g (L + 1)) (hc : 0 ≤ c ∧ c ≤ 1) (hV : V < hx_p L) (hz : (z - 1) * V ≤ U) (hz2 : U < z * V) (h : hx_val g (L + 1) + c * hx_p (L + 1) = (U - z * V + hx_p (L + 1)) + V) : hx_val g (L + 1) = U - (z - 1) * V := by
  have b1 := hx_val_lt hg
  have b2 := hx_val_nn hg
  have b3 : hx_p (L + 1) = 65536 * hx_p L := hx_ps L
  have b4 := hx_p_pos L
  have e : (z - 1) * V = z * V - V := by rw [Int.sub_mul, Int.one_mul]
  rw [e] at hz ⊢
  rcases (show c = 0 ∨ c = 1 by omega) with q | q
  · subst q; rw [Int.zero_mul] at h; omega
  · subst q; rw [Int.one_mul] at h; omega
theorem tx_rng {z v cr g b : Int} (hz : 0 ≤ z ∧ z < 65536) (hv : 0 ≤ v ∧ v < 65536) (hc : 0 ≤ cr ∧ cr < 65536) (hg : 0 ≤ g ∧ g < 65536) (hb : 0 ≤ b ∧ b ≤ 1) : (0 ≤ z * v + cr ∧ z * v + cr < 4294967296 ∧ (z * v + cr) / 65536 < 65536) := by
  have := hx_mul_dg hz hv
  omega
/-- quotient and rest in places q and r, all else kept -/
def md_d (F Ln G L1 : Nat → Int) (q r : Nat) (vq vr : Int) : Prop := (∀ s : Nat, s < 188 → s ≠ q → s ≠ r → md_e F Ln G L1 s) ∧ md_n G L1 q vq ∧ md_n G L1 r vr
theorem hx_win_dg {g : Nat → Int} {a n m : Nat} (h : hx_dg g m) (hm : a + n ≤ m) : hx_dg (fun j => g (a + j)) n := fun i hi => h (a + i) (by omega)
set_option maxHeartbeats 4000000 in
set_option maxRecDepth 100000 in
/-- Model.shortDivide -/
theorem c_mshortDivide (l : Launch) (D : va_G) (cI cJ cE cF cR : ClassId) (mo fg le sg tp bl pr rs : Nat) (n dn sv rk tn ms th : Int) (q9 r9 s9 t9 a9 : Nat) (F Ln T0 : Nat → Int) (v1 v2 : Int) (hq9 : q9 < 188) (hr9 : r9 < 188) (hs9 : s9 < 188) (ht9 : t9 < 188) (hqr : q9 ≠ r9) (hn1 : md_n F Ln s9 v1) (hn2 : md_n F Ln t9 v2) (hb1 : v1 < hx_p a9) (hfit : a9 ≤ mdC q9) (hk1 : Ln t9 = 1) (hd0 : 0 < v2) : Cv l D (zty cI cJ cE cF cR) yX11_shortDivide wsX11_shortDivide (zRm 3 66) 0 0 [.ref (mo), .int (iZ (((q9 : Nat) : Int))), .int (iZ (((r9 : Nat) : Int))), .int (iZ (((s9 : Nat) : Int))), .int (iZ (((t9 : Nat) : Int)))] [(mo, mo_ fg le sg tp bl pr rs (n) (dn) (sv) (rk) (tn) (ms) (th)), (fg, aI cI (52200) (F)), (le, aI cI (190) (Ln)), (tp, aI cI (1300) (T0))] (fun w1 => ∃ (G L1 T1 : Nat → Int), w1 = [(mo, mo_ fg le sg tp bl pr rs (n) (dn) (sv) (rk) (tn) (ms) (th)), (fg, aI cI (52200) (G)), (le, aI cI (190) (L1)), (tp, aI cI (1300) (T1))] ∧ md_d F Ln G L1 q9 r9 (v1 / v2) (v1 % v2)) := by
  unfold Cv
  refine zs (Qc := zQv D _ _) (cc := cX11_shortDivide) (maxL := 13) (ret := none) (by decide) rfl (Nat.le_of_ble_eq_true rfl) ?_
  intro zp ze s zm below meth zc ls A args Q hQ hx hb hr hts hown hlk hml hnm hN hA hK hP hD hS hl
  have q_constantLong_RX11_47_65536 := hts (.constantLong RX11 47 (65536)) (by decide +kernel)
  have q_f_RX11_8_LimbSolverModel_figure_I := hts (.fieldLink RX11 8 "LimbSolverModel" "figure" "[I") (by decide +kernel)
  have hin11 : ∀ w ∈ wsX110, w ∈ wsX11_shortDivide := by decide +kernel
  have q_f_RX11_20_LimbSolverModel_top_I := hts (.fieldLink RX11 20 "LimbSolverModel" "top" "[I") (by decide +kernel)
  have q_f_RX11_14_LimbSolverModel_length_I := hts (.fieldLink RX11 14 "LimbSolverModel" "length" "[I") (by decide +kernel)
  have hl : lv_has ls 13 [(0, .ref (mo)), (1, .int (iZ (((q9 : Nat) : Int)))), (2, .int (iZ (((r9 : Nat) : Int)))), (3, .int (iZ (((s9 : Nat) : Int)))), (4, .int (iZ (((t9 : Nat) : Int))))] := hl
  obtain ⟨m, hLs, hvs⟩ := hn1
  obtain ⟨k, hLt, hvt⟩ := hn2
  have hm9 := hvs.1
  have hcs := mdC_b s9
  have hcq := mdC_b q9
  have hAs := mdA_b hs9
  have hAt := mdA_b ht9
  have hct := mdC_b t9
  have hma : m ≤ a9 := hx_ok_cnt hvs hb1
  obtain rfl : k = 1 := by omega
  have hv2 : F (mdA t9 + 0) = v2 := by
    have e := hvt.2.2.2
    rw [hx_vs, hx_v0, hx_p0] at e
    have e : 0 + F (mdA t9 + 0) * 1 = v2 := e
    omega
  have b2 : 0 ≤ F (mdA t9 + 0) ∧ F (mdA t9 + 0) < 65536 := hvt.2.1 0 (by omega)
  have lp : ∀ (t : Nat) (r : Int) (Tp : Nat → Int) (H : Heap) (locs : List Loc) (ls : Array Slot), (t ≤ m) → (0 ≤ r ∧ r < v2) → (∀ j : Nat, t ≤ j → j < m → 0 ≤ Tp j ∧ Tp j < 65536) → (v1 = hx_val (fun j => Tp (t + j)) (m - t) * hx_p t * v2 + r * hx_p t + hx_val (fun i => F (mdA s9 + i)) t) →  va_P D vwCl [(mo, mo_ fg le sg tp bl pr rs (n) (dn) (sv) (rk) (tn) (ms) (th)), (fg, aI cI (52200) (F)), (le, aI cI (190) (Ln)), (tp, aI cI (1300) (Tp))] H → va_D A [(mo, mo_ fg le sg tp bl pr rs (n) (dn) (sv) (rk) (tn) (ms) (th)), (fg, aI cI (52200) (F)), (le, aI cI (190) (Ln)), (tp, aI cI (1300) (Tp))] → va_S A s.heap H locs → lv_has ls 13 [(10, .int (iZ (((t : Nat) : Int) - 1))), (5, .long (lZ (r))), (8, .long (lZ (v2))), (7, .int (iZ (((m : Nat) : Int)))), (0, .ref (mo)), (1, .int (iZ (((q9 : Nat) : Int)))), (2, .int (iZ (((r9 : Nat) : Int)))), (3, .int (iZ (((s9 : Nat) : Int)))), (4, .int (iZ (((t9 : Nat) : Int))))] → W zp l ze (zRm 3 66) s zm args below meth zc H locs 0 0 Q (F0 zm 30 ls []) := by
    intro t
    induction t with
    | zero =>
      intro r Tp H locs ls htm hrr hdg hv hP hD hS hl
      have hfin : hx_val Tp m = v1 / v2 ∧ r = v1 % v2 := by
        refine md_sd_end (by omega) hrr ?_
        rw [hv, hx_p0, hx_v0, hx_val_congr (d := fun j => Tp (0 + j)) (e := Tp) (fun j _ => by rw [Nat.zero_add]), Nat.sub_zero]
        simp
      refine lv_iload hx hb dX11_shortDivide_30 (lv_at hl 0 rfl) ?_
      refine zr_if_lt hx hb 83 ⟨by omega, by omega⟩ dX11_shortDivide_32 (by decide) (fun h_32 => ?_) (fun h_32 => ?_)
      · refine lv_aload_n hx hb dX11_shortDivide_83 rfl (lv_at hl 4 rfl) ?_
        refine lv_iload_n hx hb dX11_shortDivide_84 rfl (lv_at hl 5 rfl) ?_
        refine lv_iload hx hb dX11_shortDivide_85 (lv_at hl 3 rfl) ?_
        refine zc_Vv (As := [.int (iZ (((q9 : Nat) : Int))), .int (iZ (((m : Nat) : Int)))]) (rest := []) (wr := []) ⟨hx, hb, hml, hown, hts⟩ (c_take l D cI cJ cE cF cR mo fg le sg tp bl pr rs n dn sv rk tn ms th q9 m F Ln Tp hq9 (by omega) (fun j hj => hdg j (Nat.zero_le j) hj)) (cwV 2 hts gX11_shortDivide_X11_take rfl rfl rfl (by decide +kernel) ⟨Nat.le_of_ble_eq_true rfl, Nat.le_of_ble_eq_true rfl⟩) hN hK hP hD hS hA [0, 1, 2, 3] [] rfl rfl (by decide) (by decide) (by decide) (q0 := 0) (ci := 11) rfl rfl rfl rfl hl.1 (Nat.le_of_ble_eq_true rfl) dX11_shortDivide_87 ⟨by decide, by decide⟩ (fun w1 H locs hp hP hD hS => ?_)
        obtain ⟨G, L1, hw9, hG⟩ := hp
        subst hw9
        have hP := hP.sub (ws' := [(mo, mo_ fg le sg tp bl pr rs (n) (dn) (sv) (rk) (tn) (ms) (th)), (fg, aI cI (52200) (G)), (le, aI cI (190) (L1)), (tp, aI cI (1300) (Tp))]) [0, 1, 2, 3] rfl
        have hD := hD.sub (ws' := [(mo, mo_ fg le sg tp bl pr rs (n) (dn) (sv) (rk) (tn) (ms) (th)), (fg, aI cI (52200) (G)), (le, aI cI (190) (L1)), (tp, aI cI (1300) (Tp))]) [0, 1, 2, 3] (by decide) rfl
        refine lv_aload_n hx hb dX11_shortDivide_90 rfl (lv_at hl 4 rfl) ?_
        refine lv_iload_n hx hb dX11_shortDivide_91 rfl (lv_at hl 6 rfl) ?_
        refine lv_lload hx hb dX11_shortDivide_92 (lv_at hl 1 rfl) ?_
        refine zc_Vv (As := [.int (iZ (((r9 : Nat) : Int))), .long (lZ (r))]) (rest := []) (wr := [(tp, aI cI (1300) (Tp))]) ⟨hx, hb, hml, hown, hts⟩ (c_mput l D cI cJ cE cF cR mo fg le sg tp bl pr rs n dn sv rk tn ms th r9 G L1 r hr9 ⟨by omega, by omega⟩) (cwV 2 hts gX11_shortDivide_X11_put rfl rfl rfl (by decide +kernel) ⟨Nat.le_of_ble_eq_true rfl, Nat.le_of_ble_eq_true rfl⟩) hN hK hP hD hS hA [0, 1, 2] [3] rfl rfl (by decide) (by decide) (by decide) (q0 := 0) (ci := 11) rfl rfl rfl rfl hl.1 (Nat.le_of_ble_eq_true rfl) dX11_shortDivide_94 ⟨by decide, by decide⟩ (fun w1 H locs hp hP hD hS => ?_)
        obtain ⟨G2, L2, hw9, hG2⟩ := hp
        subst hw9
        have hP := hP.sub (ws' := [(mo, mo_ fg le sg tp bl pr rs (n) (dn) (sv) (rk) (tn) (ms) (th)), (fg, aI cI (52200) (G2)), (le, aI cI (190) (L2)), (tp, aI cI (1300) (Tp))]) [1, 2, 3, 0] rfl
        have hD := hD.sub (ws' := [(mo, mo_ fg le sg tp bl pr rs (n) (dn) (sv) (rk) (tn) (ms) (th)), (fg, aI cI (52200) (G2)), (le, aI cI (190) (L2)), (tp, aI cI (1300) (Tp))]) [1, 2, 3, 0] (by decide) rfl
        exact zr_vret hQ hx hb hr hlk dX11_shortDivide_97 hK hP hD hS (by omega) (by omega) (⟨G2, L2, Tp, rfl, fun s h1 h2 h3 => (hG.1 s h1 h2).trans (hG2.1 s h1 h3), (hG2.1 q9 hq9 hqr).n (hfin.1 ▸ hG.2), hfin.2 ▸ hG2.2⟩)
      · exfalso; omega
    | succ t ih =>
      intro r Tp H locs ls htm hrr hdg hv hP hD hS hl
      refine lv_iload hx hb dX11_shortDivide_30 (lv_at hl 0 rfl) ?_
      refine zr_if_lt hx hb 83 ⟨by omega, by omega⟩ dX11_shortDivide_32 (by decide) (fun h_32 => ?_) (fun h_32 => ?_)
      · exfalso; omega
      · have b0 : 0 ≤ F (mdA s9 + t) ∧ F (mdA s9 + t) < 65536 := hvs.2.1 t (by omega)
        have hq := md_sd_q hd0 hrr b0 rfl
        refine lv_lload hx hb dX11_shortDivide_35 (lv_at hl 1 rfl) ?_
        refine zr_ldc2 hx hb 65536 (by decide) hown q_constantLong_RX11_47_65536 dX11_shortDivide_37 ?_
        refine zr_lmul hx hb dX11_shortDivide_40 ?_
        refine lv_aload_n hx hb dX11_shortDivide_41 rfl (lv_at hl 4 rfl) ?_
        refine va_get (D := D) (ci := 11) (v := .ref (fg)) (C := RX11) (T := TX11) (N := 14) hx hb hts hin11 hown hK hP 0 rfl rfl 0 (by decide) q_f_RX11_8_LimbSolverModel_figure_I (fun _ h9 => h9) rfl dX11_shortDivide_42 ?_
        refine lv_iload_n hx hb dX11_shortDivide_45 rfl (lv_at hl 7 rfl) ?_
        refine zc_Si (As := [.int (iZ (((s9 : Nat) : Int)))]) (rest := [.ref (fg), .long (lZ ((r) * (65536)))]) (wr := [(mo, mo_ fg le sg tp bl pr rs (n) (dn) (sv) (rk) (tn) (ms) (th)), (fg, aI cI (52200) (F)), (le, aI cI (190) (Ln)), (tp, aI cI (1300) (Tp))]) ⟨hx, hb, hml, hown, hts⟩ (c_at l D cI cJ cE cF cR s9 (by omega)) (va_cwS 1 hts gX11_shortDivide_X11_at rfl rfl rfl (by decide +kernel) ⟨Nat.le_of_ble_eq_true rfl, Nat.le_of_ble_eq_true rfl⟩) hN hK hP hD hS hA [] [0, 1, 2, 3] rfl rfl (by decide) (by decide) (by decide) rfl hl.1 (Nat.le_of_ble_eq_true rfl) dX11_shortDivide_46 ⟨by decide, by decide⟩ (fun z46 w1 H locs hz46 hp hP hD hS => ?_)
        obtain ⟨hw9, hx0⟩ := hp
        subst hw9
        subst hx0
        have hP := hP.sub (ws' := [(mo, mo_ fg le sg tp bl pr rs (n) (dn) (sv) (rk) (tn) (ms) (th)), (fg, aI cI (52200) (F)), (le, aI cI (190) (Ln)), (tp, aI cI (1300) (Tp))]) [0, 1, 2, 3] rfl
        have hD := hD.sub (ws' := [(mo, mo_ fg le sg tp bl pr rs (n) (dn) (sv) (rk) (tn) (ms) (th)), (fg, aI cI (52200) (F)), (le, aI cI (190) (Ln)), (tp, aI cI (1300) (Tp))]) [0, 1, 2, 3] (by decide) rfl
        refine lv_iload hx hb dX11_shortDivide_49 (lv_at hl 0 rfl) ?_
        refine zr_iadd hx hb dX11_shortDivide_51 ?_
        refine zr_iald hx hb hK hP 1 0 rfl rfl (mdA s9 + t) (by omega) (by omega) (by omega) dX11_shortDivide_52 ?_
        refine zr_i2l hx hb ⟨by omega, by omega⟩ dX11_shortDivide_53 ?_
        refine zr_ladd hx hb dX11_shortDivide_54 ?_
        refine lv_lstore (lv' := [(11, .long (lZ (((r) * (65536)) + ((F) (mdA s9 + t))))), (10, .int (iZ (((t + 1 : Nat) : Int) - 1))), (5, .long (lZ (r))), (8, .long (lZ (v2))), (7, .int (iZ (((m : Nat) : Int)))), (0, .ref (mo)), (1, .int (iZ (((q9 : Nat) : Int)))), (2, .int (iZ (((r9 : Nat) : Int)))), (3, .int (iZ (((s9 : Nat) : Int)))), (4, .int (iZ (((t9 : Nat) : Int))))]) hx hb dX11_shortDivide_55 hl (by decide) rfl (fun ls hl => ?_)
        refine lv_aload_n hx hb dX11_shortDivide_57 rfl (lv_at hl 5 rfl) ?_
        refine va_get (D := D) (ci := 11) (v := .ref (tp)) (C := RX11) (T := TX11) (N := 14) hx hb hts hin11 hown hK hP 0 rfl rfl 3 (by decide) q_f_RX11_20_LimbSolverModel_top_I (fun _ h9 => h9) rfl dX11_shortDivide_58 ?_
        refine lv_iload hx hb dX11_shortDivide_61 (lv_at hl 1 rfl) ?_
        refine lv_lload hx hb dX11_shortDivide_63 (lv_at hl 0 rfl) ?_
        refine lv_lload hx hb dX11_shortDivide_65 (lv_at hl 3 rfl) ?_
        refine zr_ldiv hx hb ⟨by omega, by omega⟩ ⟨by omega, by omega⟩ (by omega) (by omega) dX11_shortDivide_67 ?_
        refine zr_l2i hx hb dX11_shortDivide_68 ?_
        refine zr_iast hx hb hK hP hD hS 3 0 rfl rfl (t) (by omega) (by omega) (by omega) dX11_shortDivide_69 (fun H locs hP hD hS => ?_)
        have hP : va_P D vwCl [(mo, mo_ fg le sg tp bl pr rs (n) (dn) (sv) (rk) (tn) (ms) (th)), (fg, aI cI (52200) (F)), (le, aI cI (190) (Ln)), (tp, aI cI (1300) (zu (Tp) (t) ((((r) * (65536)) + ((F) (mdA s9 + t))) / (v2))))] H := hP
        have hD : va_D A [(mo, mo_ fg le sg tp bl pr rs (n) (dn) (sv) (rk) (tn) (ms) (th)), (fg, aI cI (52200) (F)), (le, aI cI (190) (Ln)), (tp, aI cI (1300) (zu (Tp) (t) ((((r) * (65536)) + ((F) (mdA s9 + t))) / (v2))))] := hD
        refine lv_lload hx hb dX11_shortDivide_70 (lv_at hl 0 rfl) ?_
        refine lv_lload hx hb dX11_shortDivide_72 (lv_at hl 3 rfl) ?_
        refine zr_lrem hx hb ⟨by omega, by omega⟩ ⟨by omega, by omega⟩ (by omega) (by omega) dX11_shortDivide_74 ?_
        refine lv_lstore (lv' := [(5, .long (lZ ((((r) * (65536)) + ((F) (mdA s9 + t))) % (v2)))), (11, .long (lZ (((r) * (65536)) + ((F) (mdA s9 + t))))), (10, .int (iZ (((t + 1 : Nat) : Int) - 1))), (8, .long (lZ (v2))), (7, .int (iZ (((m : Nat) : Int)))), (0, .ref (mo)), (1, .int (iZ (((q9 : Nat) : Int)))), (2, .int (iZ (((r9 : Nat) : Int)))), (3, .int (iZ (((s9 : Nat) : Int)))), (4, .int (iZ (((t9 : Nat) : Int))))]) hx hb dX11_shortDivide_75 hl (by decide) rfl (fun ls hl => ?_)
        refine lv_iinc (v := iZ (((t : Nat) : Int) - 1)) (lv' := [(10, .int (iZ (((t : Nat) : Int) - 1))), (5, .long (lZ ((((r) * (65536)) + ((F) (mdA s9 + t))) % (v2)))), (11, .long (lZ (((r) * (65536)) + ((F) (mdA s9 + t))))), (8, .long (lZ (v2))), (7, .int (iZ (((m : Nat) : Int)))), (0, .ref (mo)), (1, .int (iZ (((q9 : Nat) : Int)))), (2, .int (iZ (((r9 : Nat) : Int)))), (3, .int (iZ (((s9 : Nat) : Int)))), (4, .int (iZ (((t9 : Nat) : Int))))]) hx hb dX11_shortDivide_77 hl (k := 2) rfl (by rw [show ((t : Nat) : Int) - 1 = (((t + 1 : Nat) : Int) - 1) + (-1) by omega]; exact iZ_add _ _) (by decide) rfl (fun ls hl => ?_)
        refine lv_goto (tgt := 30) hx hb dX11_shortDivide_80 (by decide) ?_
        exact ih ((r * 65536 + F (mdA s9 + t)) % v2) (zu Tp t ((r * 65536 + F (mdA s9 + t)) / v2)) H locs ls (by omega) hq.2 (fun j h1 h2 => by by_cases q : j = t; (subst q; rw [zu_s]; exact hq.1); (rw [zu_n Tp _ q]; exact hdg j (by omega) h2)) (md_sd_step (w := fun i => F (mdA s9 + i)) (by omega) rfl hv) hP hD hS (lv_sub hl [0, 1, 3, 4, 5, 6, 7, 8, 9] rfl)
  refine lv_lconst (v := lZ 0) hx hb dX11_shortDivide_0 rfl ?_
  refine lv_lstore (lv' := [(5, .long (lZ (0))), (0, .ref (mo)), (1, .int (iZ (((q9 : Nat) : Int)))), (2, .int (iZ (((r9 : Nat) : Int)))), (3, .int (iZ (((s9 : Nat) : Int)))), (4, .int (iZ (((t9 : Nat) : Int))))]) hx hb dX11_shortDivide_1 hl (by decide) rfl (fun ls hl => ?_)
  refine lv_aload_n hx hb dX11_shortDivide_3 rfl (lv_at hl 1 rfl) ?_
  refine va_get (D := D) (ci := 11) (v := .ref (le)) (C := RX11) (T := TX11) (N := 14) hx hb hts hin11 hown hK hP 0 rfl rfl 1 (by decide) q_f_RX11_14_LimbSolverModel_length_I (fun _ h9 => h9) rfl dX11_shortDivide_4 ?_
  refine lv_iload_n hx hb dX11_shortDivide_7 rfl (lv_at hl 4 rfl) ?_
  refine zr_iald hx hb hK hP 2 0 rfl rfl (s9) (by omega) (by omega) (by omega) dX11_shortDivide_8 ?_
  refine zr_eqi ((m : Nat) : Int) hLs ?_
  refine lv_istore (lv' := [(7, .int (iZ (((m : Nat) : Int)))), (5, .long (lZ (0))), (0, .ref (mo)), (1, .int (iZ (((q9 : Nat) : Int)))), (2, .int (iZ (((r9 : Nat) : Int)))), (3, .int (iZ (((s9 : Nat) : Int)))), (4, .int (iZ (((t9 : Nat) : Int))))]) hx hb dX11_shortDivide_9 hl (by decide) rfl (fun ls hl => ?_)
  refine lv_aload_n hx hb dX11_shortDivide_11 rfl (lv_at hl 2 rfl) ?_
  refine va_get (D := D) (ci := 11) (v := .ref (fg)) (C := RX11) (T := TX11) (N := 14) hx hb hts hin11 hown hK hP 0 rfl rfl 0 (by decide) q_f_RX11_8_LimbSolverModel_figure_I (fun _ h9 => h9) rfl dX11_shortDivide_12 ?_
  refine lv_iload hx hb dX11_shortDivide_15 (lv_at hl 6 rfl) ?_
  refine zc_Si (As := [.int (iZ (((t9 : Nat) : Int)))]) (rest := [.ref (fg)]) (wr := [(mo, mo_ fg le sg tp bl pr rs (n) (dn) (sv) (rk) (tn) (ms) (th)), (fg, aI cI (52200) (F)), (le, aI cI (190) (Ln)), (tp, aI cI (1300) (T0))]) ⟨hx, hb, hml, hown, hts⟩ (c_at l D cI cJ cE cF cR t9 (by omega)) (va_cwS 1 hts gX11_shortDivide_X11_at rfl rfl rfl (by decide +kernel) ⟨Nat.le_of_ble_eq_true rfl, Nat.le_of_ble_eq_true rfl⟩) hN hK hP hD hS hA [] [0, 1, 2, 3] rfl rfl (by decide) (by decide) (by decide) rfl hl.1 (Nat.le_of_ble_eq_true rfl) dX11_shortDivide_17 ⟨by decide, by decide⟩ (fun z17 w1 H locs hz17 hp hP hD hS => ?_)
  obtain ⟨hw9, hx0⟩ := hp
  subst hw9
  subst hx0
  have hP := hP.sub (ws' := [(mo, mo_ fg le sg tp bl pr rs (n) (dn) (sv) (rk) (tn) (ms) (th)), (fg, aI cI (52200) (F)), (le, aI cI (190) (Ln)), (tp, aI cI (1300) (T0))]) [0, 1, 2, 3] rfl
  have hD := hD.sub (ws' := [(mo, mo_ fg le sg tp bl pr rs (n) (dn) (sv) (rk) (tn) (ms) (th)), (fg, aI cI (52200) (F)), (le, aI cI (190) (Ln)), (tp, aI cI (1300) (T0))]) [0, 1, 2, 3] (by decide) rfl
  refine zr_iald hx hb hK hP 1 0 rfl rfl (mdA t9 + 0) (by omega) (by omega) (by omega) dX11_shortDivide_20 ?_
  refine zr_eqi v2 hv2 ?_
  refine zr_i2l hx hb ⟨by omega, by omega⟩ dX11_shortDivide_21 ?_
  refine lv_lstore (lv' := [(8, .long (lZ (v2))), (7, .int (iZ (((m : Nat) : Int)))), (5, .long (lZ (0))), (0, .ref (mo)), (1, .int (iZ (((q9 : Nat) : Int)))), (2, .int (iZ (((r9 : Nat) : Int)))), (3, .int (iZ (((s9 : Nat) : Int)))), (4, .int (iZ (((t9 : Nat) : Int))))]) hx hb dX11_shortDivide_22 hl (by decide) rfl (fun ls hl => ?_)
  refine lv_iload hx hb dX11_shortDivide_24 (lv_at hl 1 rfl) ?_
  refine lv_iconst (v := iZ 1) hx hb dX11_shortDivide_26 rfl ?_
  refine zr_isub hx hb dX11_shortDivide_27 ?_
  refine lv_istore (lv' := [(10, .int (iZ ((((m : Nat) : Int)) - (1)))), (8, .long (lZ (v2))), (7, .int (iZ (((m : Nat) : Int)))), (5, .long (lZ (0))), (0, .ref (mo)), (1, .int (iZ (((q9 : Nat) : Int)))), (2, .int (iZ (((r9 : Nat) : Int)))), (3, .int (iZ (((s9 : Nat) : Int)))), (4, .int (iZ (((t9 : Nat) : Int))))]) hx hb dX11_shortDivide_28 hl (by decide) rfl (fun ls hl => ?_)
  exact lp m 0 T0 H locs ls (Nat.le_refl m) ⟨by omega, hd0⟩ (fun j h1 h2 => absurd h1 (by omega)) (by rw [Nat.sub_self, hx_v0, hvs.2.2.2]; simp) hP hD hS (lv_sub hl [0, 3, 1, 2, 4, 5, 6, 7, 8] rfl)

set_option maxHeartbeats 4000000 in
set_option maxRecDepth 100000 in
/-- Model.takeAway -/
theorem c_mtakeAway (l : Launch) (D : va_G) (cI cJ cE cF cR : ClassId) (mo fg le sg tp bl pr rs : Nat) (n dn sv rk tn ms th : Int) (L at_ M : Nat) (z : Int) (u v : Nat → Int) (hz : 0 ≤ z ∧ z < 65536) (hu : hx_dg u M) (hvd : hx_dg v L) (hM : at_ + L < M) (hM2 : M ≤ 1300) (hz1 : (z - 1) * hx_val v L ≤ hx_val (fun j => u (at_ + j)) (L + 1)) : Cl l D (zty cI cJ cE cF cR) yX11_takeAway wsX11_takeAway (zRm 0 0) 0 0 [.ref (mo), .int (iZ (((at_ : Nat) : Int))), .int (iZ (((L : Nat) : Int))), .long (lZ (z))] [(mo, mo_ fg le sg tp bl pr rs (n) (dn) (sv) (rk) (tn) (ms) (th)), (tp, aI cI (1300) (u)), (bl, aI cI (1300) (v))] (fun r w1 => ∃ g : Nat → Int, w1 = [(mo, mo_ fg le sg tp bl pr rs (n) (dn) (sv) (rk) (tn) (ms) (th)), (tp, aI cI (1300) (g)), (bl, aI cI (1300) (v))] ∧ hx_dg g M ∧ (∀ j : Nat, j < at_ ∨ at_ + L < j → g j = u j) ∧ hx_val (fun j => g (at_ + j)) (L + 1) = hx_val (fun j => u (at_ + j)) (L + 1) - r * hx_val v L ∧ ((r = z ∧ z * hx_val v L ≤ hx_val (fun j => u (at_ + j)) (L + 1)) ∨ (r = z - 1 ∧ hx_val (fun j => u (at_ + j)) (L + 1) < z * hx_val v L))) := by
  unfold Cl
  refine zs (Qc := zQl D _ _) (cc := cX11_takeAway) (maxL := 14) (ret := (some .long)) (by decide) rfl (Nat.le_of_ble_eq_true rfl) ?_
  intro zp ze s zm below meth zc ls A args Q hQ hx hb hr hts hown hlk hml hnm hN hA hK hP hD hS hl
  have q_f_RX11_20_LimbSolverModel_top_I := hts (.fieldLink RX11 20 "LimbSolverModel" "top" "[I") (by decide +kernel)
  have hin11 : ∀ w ∈ wsX110, w ∈ wsX11_takeAway := by decide +kernel
  have q_constant_RX11_53_65535 := hts (.constant RX11 53 (65535)) (by decide +kernel)
  have q_f_RX11_23_LimbSolverModel_below_I := hts (.fieldLink RX11 23 "LimbSolverModel" "below" "[I") (by decide +kernel)
  have q_constantLong_RX11_80_65535 := hts (.constantLong RX11 80 (65535)) (by decide +kernel)
  have q_constantLong_RX11_47_65536 := hts (.constantLong RX11 47 (65536)) (by decide +kernel)
  have hl : lv_has ls 14 [(0, .ref (mo)), (1, .int (iZ (((at_ : Nat) : Int)))), (2, .int (iZ (((L : Nat) : Int)))), (3, .long (lZ (z)))] := hl
  have lp2 : ∀ (t : Nat) (i : Nat) (c1 : Int) (g : Nat → Int) (g0 : Nat → Int) (H : Heap) (locs : List Loc) (ls : Array Slot), (i + t = L) → (hx_dg g M) → (∀ j : Nat, j < at_ ∨ at_ + i ≤ j → g j = g0 j) → (0 ≤ c1 ∧ c1 ≤ 1) → (hx_val (fun j => g (at_ + j)) i + c1 * hx_p i = hx_val (fun j => g0 (at_ + j)) i + hx_val v i) → (∀ j : Nat, j < at_ ∨ at_ + L < j → g0 j = u j) → (hx_val (fun j => g0 (at_ + j)) (L + 1) = hx_val (fun j => u (at_ + j)) (L + 1) - z * hx_val v L + hx_p (L + 1)) → (hx_val (fun j => u (at_ + j)) (L + 1) < z * hx_val v L) →  va_P D vwCl [(mo, mo_ fg le sg tp bl pr rs (n) (dn) (sv) (rk) (tn) (ms) (th)), (tp, aI cI (1300) (g)), (bl, aI cI (1300) (v))] H → va_D A [(mo, mo_ fg le sg tp bl pr rs (n) (dn) (sv) (rk) (tn) (ms) (th)), (tp, aI cI (1300) (g)), (bl, aI cI (1300) (v))] → va_S A s.heap H locs → lv_has ls 14 [(12, .int (iZ (((i : Nat) : Int)))), (11, .int (iZ (c1))), (0, .ref (mo)), (1, .int (iZ (((at_ : Nat) : Int)))), (2, .int (iZ (((L : Nat) : Int)))), (3, .long (lZ (z)))] → W zp l ze (zRm 0 0) s zm args below meth zc H locs 0 0 Q (F0 zm 143 ls []) := by
    intro t
    induction t with
    | zero =>
      intro i c1 g g0 H locs ls hit hg hge hc hv hg0 hw0 hneg hP hD hS hl
      have hiL : i = L := by omega
      rw [hiL] at hv hge
      refine lv_iload hx hb dX11_takeAway_143 (lv_at hl 0 rfl) ?_
      refine lv_iload_n hx hb dX11_takeAway_145 rfl (lv_at hl 4 rfl) ?_
      refine zr_icmp_ge hx hb 198 ⟨by omega, by omega⟩ ⟨by omega, by omega⟩ dX11_takeAway_146 (by decide) (fun h_146 => ?_) (fun h_146 => ?_)
      · have bt := hg (at_ + L) (by omega)
        refine lv_aload_n hx hb dX11_takeAway_198 rfl (lv_at hl 2 rfl) ?_
        refine va_get (D := D) (ci := 11) (v := .ref (tp)) (C := RX11) (T := TX11) (N := 14) hx hb hts hin11 hown hK hP 0 rfl rfl 3 (by decide) q_f_RX11_20_LimbSolverModel_top_I (fun _ h9 => h9) rfl dX11_takeAway_199 ?_
        refine lv_iload_n hx hb dX11_takeAway_202 rfl (lv_at hl 3 rfl) ?_
        refine lv_iload_n hx hb dX11_takeAway_203 rfl (lv_at hl 4 rfl) ?_
        refine zr_iadd hx hb dX11_takeAway_204 ?_
        refine lv_aload_n hx hb dX11_takeAway_205 rfl (lv_at hl 2 rfl) ?_
        refine va_get (D := D) (ci := 11) (v := .ref (tp)) (C := RX11) (T := TX11) (N := 14) hx hb hts hin11 hown hK hP 0 rfl rfl 3 (by decide) q_f_RX11_20_LimbSolverModel_top_I (fun _ h9 => h9) rfl dX11_takeAway_206 ?_
        refine lv_iload_n hx hb dX11_takeAway_209 rfl (lv_at hl 3 rfl) ?_
        refine lv_iload_n hx hb dX11_takeAway_210 rfl (lv_at hl 4 rfl) ?_
        refine zr_iadd hx hb dX11_takeAway_211 ?_
        refine zr_iald hx hb hK hP 1 0 rfl rfl (at_ + L) (by omega) (by omega) (by omega) dX11_takeAway_212 ?_
        refine lv_iload hx hb dX11_takeAway_213 (lv_at hl 1 rfl) ?_
        refine zr_iadd hx hb dX11_takeAway_215 ?_
        refine zr_ldc hx hb 65535 (by decide) hown q_constant_RX11_53_65535 dX11_takeAway_216 ?_
        refine zr_iand hx hb 16 (by decide) (by decide) dX11_takeAway_218 ?_
        refine zr_eqi ((((g) (at_ + L)) + (c1)) % 65536) (by rfl) ?_
        refine zr_iast hx hb hK hP hD hS 1 0 rfl rfl (at_ + L) (by omega) (by omega) (by omega) dX11_takeAway_219 (fun H locs hP hD hS => ?_)
        have hP : va_P D vwCl [(mo, mo_ fg le sg tp bl pr rs (n) (dn) (sv) (rk) (tn) (ms) (th)), (tp, aI cI (1300) (zu (g) (at_ + L) ((((g) (at_ + L)) + (c1)) % 65536))), (bl, aI cI (1300) (v))] H := hP
        have hD : va_D A [(mo, mo_ fg le sg tp bl pr rs (n) (dn) (sv) (rk) (tn) (ms) (th)), (tp, aI cI (1300) (zu (g) (at_ + L) ((((g) (at_ + L)) + (c1)) % 65536))), (bl, aI cI (1300) (v))] := hD
        refine lv_lload_n hx hb dX11_takeAway_220 rfl (lv_at hl 5 rfl) ?_
        refine lv_lconst (v := lZ 1) hx hb dX11_takeAway_221 rfl ?_
        refine zr_lsub hx hb dX11_takeAway_222 ?_
        exact zr_lret hQ hx hb hr hlk dX11_takeAway_223 hK hP hD hS (by omega) (by omega) ⟨by omega, by omega⟩ (⟨_, rfl, hx_zu_dg hg (hx_mod _), (fun j hj => by rw [zu_n g _ (by omega), hge j (by omega)]; exact hg0 j hj), gx_fin (c := (g (at_ + L) + c1) / 65536) (hx_win_dg (hx_zu_dg hg (hx_mod _)) (by omega)) ⟨by omega, by omega⟩ (hx_val_lt hvd) hz1 hneg (by have q := gx_end hv (hge (at_ + L) (by omega)); rw [hw0] at q; exact q), Or.inr ⟨rfl, hneg⟩⟩)
      · exfalso; omega
    | succ t ih =>
      intro i c1 g g0 H locs ls hit hg hge hc hv hg0 hw0 hneg hP hD hS hl
      refine lv_iload hx hb dX11_takeAway_143 (lv_at hl 0 rfl) ?_
      refine lv_iload_n hx hb dX11_takeAway_145 rfl (lv_at hl 4 rfl) ?_
      refine zr_icmp_ge hx hb 198 ⟨by omega, by omega⟩ ⟨by omega, by omega⟩ dX11_takeAway_146 (by decide) (fun h_146 => ?_) (fun h_146 => ?_)
      · exfalso; omega
      · have bu := hg (at_ + i) (by omega)
        have bv := hvd i (by omega)
        refine lv_aload_n hx hb dX11_takeAway_149 rfl (lv_at hl 2 rfl) ?_
        refine va_get (D := D) (ci := 11) (v := .ref (tp)) (C := RX11) (T := TX11) (N := 14) hx hb hts hin11 hown hK hP 0 rfl rfl 3 (by decide) q_f_RX11_20_LimbSolverModel_top_I (fun _ h9 => h9) rfl dX11_takeAway_150 ?_
        refine lv_iload_n hx hb dX11_takeAway_153 rfl (lv_at hl 3 rfl) ?_
        refine lv_iload hx hb dX11_takeAway_154 (lv_at hl 0 rfl) ?_
        refine zr_iadd hx hb dX11_takeAway_156 ?_
        refine zr_iald hx hb hK hP 1 0 rfl rfl (at_ + i) (by omega) (by omega) (by omega) dX11_takeAway_157 ?_
        refine lv_aload_n hx hb dX11_takeAway_158 rfl (lv_at hl 2 rfl) ?_
        refine va_get (D := D) (ci := 11) (v := .ref (bl)) (C := RX11) (T := TX11) (N := 14) hx hb hts hin11 hown hK hP 0 rfl rfl 4 (by decide) q_f_RX11_23_LimbSolverModel_below_I (fun _ h9 => h9) rfl dX11_takeAway_159 ?_
        refine lv_iload hx hb dX11_takeAway_162 (lv_at hl 0 rfl) ?_
        refine zr_iald hx hb hK hP 2 0 rfl rfl (i) (by omega) (by omega) (by omega) dX11_takeAway_164 ?_
        refine zr_iadd hx hb dX11_takeAway_165 ?_
        refine lv_iload hx hb dX11_takeAway_166 (lv_at hl 1 rfl) ?_
        refine zr_iadd hx hb dX11_takeAway_168 ?_
        refine lv_istore (lv' := [(13, .int (iZ ((((g) (at_ + i)) + ((v) (i))) + (c1)))), (12, .int (iZ (((i : Nat) : Int)))), (11, .int (iZ (c1))), (0, .ref (mo)), (1, .int (iZ (((at_ : Nat) : Int)))), (2, .int (iZ (((L : Nat) : Int)))), (3, .long (lZ (z)))]) hx hb dX11_takeAway_169 hl (by decide) rfl (fun ls hl => ?_)
        refine lv_aload_n hx hb dX11_takeAway_171 rfl (lv_at hl 3 rfl) ?_
        refine va_get (D := D) (ci := 11) (v := .ref (tp)) (C := RX11) (T := TX11) (N := 14) hx hb hts hin11 hown hK hP 0 rfl rfl 3 (by decide) q_f_RX11_20_LimbSolverModel_top_I (fun _ h9 => h9) rfl dX11_takeAway_172 ?_
        refine lv_iload_n hx hb dX11_takeAway_175 rfl (lv_at hl 4 rfl) ?_
        refine lv_iload hx hb dX11_takeAway_176 (lv_at hl 1 rfl) ?_
        refine zr_iadd hx hb dX11_takeAway_178 ?_
        refine lv_iload hx hb dX11_takeAway_179 (lv_at hl 0 rfl) ?_
        refine zr_ldc hx hb 65535 (by decide) hown q_constant_RX11_53_65535 dX11_takeAway_181 ?_
        refine zr_iand hx hb 16 (by decide) (by decide) dX11_takeAway_183 ?_
        refine zr_eqi (((((g) (at_ + i)) + ((v) (i))) + (c1)) % 65536) (by rfl) ?_
        refine zr_iast hx hb hK hP hD hS 1 0 rfl rfl (at_ + i) (by omega) (by omega) (by omega) dX11_takeAway_184 (fun H locs hP hD hS => ?_)
        have hP : va_P D vwCl [(mo, mo_ fg le sg tp bl pr rs (n) (dn) (sv) (rk) (tn) (ms) (th)), (tp, aI cI (1300) (zu (g) (at_ + i) (((((g) (at_ + i)) + ((v) (i))) + (c1)) % 65536))), (bl, aI cI (1300) (v))] H := hP
        have hD : va_D A [(mo, mo_ fg le sg tp bl pr rs (n) (dn) (sv) (rk) (tn) (ms) (th)), (tp, aI cI (1300) (zu (g) (at_ + i) (((((g) (at_ + i)) + ((v) (i))) + (c1)) % 65536))), (bl, aI cI (1300) (v))] := hD
        refine lv_iload hx hb dX11_takeAway_185 (lv_at hl 0 rfl) ?_
        refine lv_bipush (v := iZ 16) hx hb dX11_takeAway_187 (by decide) ?_
        refine zr_ishr (k := 16) hx hb ⟨by omega, by omega⟩ (by omega) dX11_takeAway_189 ?_
        refine zr_eqi (((g (at_ + i) + v i) + c1) / 65536) (by rfl) ?_
        refine lv_istore (lv' := [(11, .int (iZ (((g (at_ + i) + v i) + c1) / 65536))), (13, .int (iZ ((((g) (at_ + i)) + ((v) (i))) + (c1)))), (12, .int (iZ (((i : Nat) : Int)))), (0, .ref (mo)), (1, .int (iZ (((at_ : Nat) : Int)))), (2, .int (iZ (((L : Nat) : Int)))), (3, .long (lZ (z)))]) hx hb dX11_takeAway_190 hl (by decide) rfl (fun ls hl => ?_)
        refine lv_iinc (v := iZ (((i + 1 : Nat) : Int))) (lv' := [(12, .int (iZ (((i + 1 : Nat) : Int)))), (11, .int (iZ (((g (at_ + i) + v i) + c1) / 65536))), (13, .int (iZ ((((g) (at_ + i)) + ((v) (i))) + (c1)))), (0, .ref (mo)), (1, .int (iZ (((at_ : Nat) : Int)))), (2, .int (iZ (((L : Nat) : Int)))), (3, .long (lZ (z)))]) hx hb dX11_takeAway_192 hl (k := 2) rfl (by rw [show ((i + 1 : Nat) : Int) = ((i : Nat) : Int) + 1 by omega]; exact iZ_add _ _) (by decide) rfl (fun ls hl => ?_)
        refine lv_goto (tgt := 143) hx hb dX11_takeAway_195 (by decide) ?_
        exact ih (i + 1) (((g (at_ + i) + v i) + c1) / 65536) (zu g (at_ + i) (((g (at_ + i) + v i) + c1) % 65536)) g0 H locs ls (by omega) (hx_zu_dg hg (hx_mod _)) (fun j hj => by rw [zu_n g _ (by omega)]; exact hge j (by omega)) ⟨by omega, by omega⟩ (gx_step hv (hge (at_ + i) (by omega))) hg0 hw0 hneg hP hD hS (lv_sub hl [0, 1, 3, 4, 5, 6] rfl)
  have lp : ∀ (t : Nat) (i : Nat) (c0 : Int) (b0 : Int) (g : Nat → Int) (H : Heap) (locs : List Loc) (ls : Array Slot), (i + t = L) → (hx_dg g M) → (∀ j : Nat, j < at_ ∨ at_ + i ≤ j → g j = u j) → (0 ≤ c0 ∧ c0 < 65536) → (0 ≤ b0 ∧ b0 ≤ 1) → (hx_val (fun j => g (at_ + j)) i - (c0 + b0) * hx_p i = hx_val (fun j => u (at_ + j)) i - z * hx_val v i) →  va_P D vwCl [(mo, mo_ fg le sg tp bl pr rs (n) (dn) (sv) (rk) (tn) (ms) (th)), (tp, aI cI (1300) (g)), (bl, aI cI (1300) (v))] H → va_D A [(mo, mo_ fg le sg tp bl pr rs (n) (dn) (sv) (rk) (tn) (ms) (th)), (tp, aI cI (1300) (g)), (bl, aI cI (1300) (v))] → va_S A s.heap H locs → lv_has ls 14 [(9, .int (iZ (((i : Nat) : Int)))), (7, .long (lZ (b0))), (5, .long (lZ (c0))), (0, .ref (mo)), (1, .int (iZ (((at_ : Nat) : Int)))), (2, .int (iZ (((L : Nat) : Int)))), (3, .long (lZ (z)))] → W zp l ze (zRm 0 0) s zm args below meth zc H locs 0 0 Q (F0 zm 9 ls []) := by
    intro t
    induction t with
    | zero =>
      intro i c0 b0 g H locs ls hit hg hge hc hb0 hv hP hD hS hl
      have hiL : i = L := by omega
      rw [hiL] at hv hge
      refine lv_iload hx hb dX11_takeAway_9 (lv_at hl 0 rfl) ?_
      refine lv_iload_n hx hb dX11_takeAway_11 rfl (lv_at hl 5 rfl) ?_
      refine zr_icmp_ge hx hb 96 ⟨by omega, by omega⟩ ⟨by omega, by omega⟩ dX11_takeAway_12 (by decide) (fun h_12 => ?_) (fun h_12 => ?_)
      · have bt := hg (at_ + L) (by omega)
        have q9 := tx_end hv (hge (at_ + L) (by omega)) (vv := (g (at_ + L) - c0) - b0) rfl
        have hw9 := hx_win_dg (hx_zu_dg hg (hx_mod ((g (at_ + L) - c0) - b0)) (k := at_ + L)) (show at_ + (L + 1) ≤ M by omega)
        refine lv_aload_n hx hb dX11_takeAway_96 rfl (lv_at hl 3 rfl) ?_
        refine va_get (D := D) (ci := 11) (v := .ref (tp)) (C := RX11) (T := TX11) (N := 14) hx hb hts hin11 hown hK hP 0 rfl rfl 3 (by decide) q_f_RX11_20_LimbSolverModel_top_I (fun _ h9 => h9) rfl dX11_takeAway_97 ?_
        refine lv_iload_n hx hb dX11_takeAway_100 rfl (lv_at hl 4 rfl) ?_
        refine lv_iload_n hx hb dX11_takeAway_101 rfl (lv_at hl 5 rfl) ?_
        refine zr_iadd hx hb dX11_takeAway_102 ?_
        refine zr_iald hx hb hK hP 1 0 rfl rfl (at_ + L) (by omega) (by omega) (by omega) dX11_takeAway_103 ?_
        refine zr_i2l hx hb ⟨by omega, by omega⟩ dX11_takeAway_104 ?_
        refine lv_lload hx hb dX11_takeAway_105 (lv_at hl 2 rfl) ?_
        refine zr_lsub hx hb dX11_takeAway_107 ?_
        refine lv_lload hx hb dX11_takeAway_108 (lv_at hl 1 rfl) ?_
        refine zr_lsub hx hb dX11_takeAway_110 ?_
        refine lv_lstore (lv' := [(9, .long (lZ ((((g) (at_ + L)) - (c0)) - (b0)))), (7, .long (lZ (b0))), (5, .long (lZ (c0))), (0, .ref (mo)), (1, .int (iZ (((at_ : Nat) : Int)))), (2, .int (iZ (((L : Nat) : Int)))), (3, .long (lZ (z)))]) hx hb dX11_takeAway_111 hl (by decide) rfl (fun ls hl => ?_)
        refine lv_aload_n hx hb dX11_takeAway_113 rfl (lv_at hl 3 rfl) ?_
        refine va_get (D := D) (ci := 11) (v := .ref (tp)) (C := RX11) (T := TX11) (N := 14) hx hb hts hin11 hown hK hP 0 rfl rfl 3 (by decide) q_f_RX11_20_LimbSolverModel_top_I (fun _ h9 => h9) rfl dX11_takeAway_114 ?_
        refine lv_iload_n hx hb dX11_takeAway_117 rfl (lv_at hl 4 rfl) ?_
        refine lv_iload_n hx hb dX11_takeAway_118 rfl (lv_at hl 5 rfl) ?_
        refine zr_iadd hx hb dX11_takeAway_119 ?_
        refine lv_lload hx hb dX11_takeAway_120 (lv_at hl 0 rfl) ?_
        refine zr_ldc2 hx hb 65535 (by decide) hown q_constantLong_RX11_80_65535 dX11_takeAway_122 ?_
        refine zr_land hx hb 16 (by decide) (by decide) dX11_takeAway_125 ?_
        refine zr_eql (((((g) (at_ + L)) - (c0)) - (b0)) % 65536) (by rfl) ?_
        refine zr_l2i hx hb dX11_takeAway_126 ?_
        refine zr_iast hx hb hK hP hD hS 1 0 rfl rfl (at_ + L) (by omega) (by omega) (by omega) dX11_takeAway_127 (fun H locs hP hD hS => ?_)
        have hP : va_P D vwCl [(mo, mo_ fg le sg tp bl pr rs (n) (dn) (sv) (rk) (tn) (ms) (th)), (tp, aI cI (1300) (zu (g) (at_ + L) (((((g) (at_ + L)) - (c0)) - (b0)) % 65536))), (bl, aI cI (1300) (v))] H := hP
        have hD : va_D A [(mo, mo_ fg le sg tp bl pr rs (n) (dn) (sv) (rk) (tn) (ms) (th)), (tp, aI cI (1300) (zu (g) (at_ + L) (((((g) (at_ + L)) - (c0)) - (b0)) % 65536))), (bl, aI cI (1300) (v))] := hD
        refine lv_lload hx hb dX11_takeAway_128 (lv_at hl 0 rfl) ?_
        refine lv_lconst (v := lZ 0) hx hb dX11_takeAway_130 rfl ?_
        refine zr_lcmp_lt hx hb 137 ⟨by omega, by omega⟩ ⟨by omega, by omega⟩ dX11_takeAway_131 dX11_takeAway_132 (by decide) (fun h_131 => ?_) (fun h_131 => ?_)
        · refine lv_iconst (v := iZ 0) hx hb dX11_takeAway_137 rfl ?_
          refine lv_istore (lv' := [(11, .int (iZ (0))), (9, .long (lZ ((((g) (at_ + L)) - (c0)) - (b0)))), (7, .long (lZ (b0))), (5, .long (lZ (c0))), (0, .ref (mo)), (1, .int (iZ (((at_ : Nat) : Int)))), (2, .int (iZ (((L : Nat) : Int)))), (3, .long (lZ (z)))]) hx hb dX11_takeAway_138 hl (by decide) rfl (fun ls hl => ?_)
          refine lv_iconst (v := iZ 0) hx hb dX11_takeAway_140 rfl ?_
          refine lv_istore (lv' := [(12, .int (iZ (0))), (11, .int (iZ (0))), (9, .long (lZ ((((g) (at_ + L)) - (c0)) - (b0)))), (7, .long (lZ (b0))), (5, .long (lZ (c0))), (0, .ref (mo)), (1, .int (iZ (((at_ : Nat) : Int)))), (2, .int (iZ (((L : Nat) : Int)))), (3, .long (lZ (z)))]) hx hb dX11_takeAway_141 hl (by decide) rfl (fun ls hl => ?_)
          exact lp2 L 0 0 _ (zu g (at_ + L) (((g (at_ + L) - c0) - b0) % 65536)) H locs ls (by omega) (hx_zu_dg hg (hx_mod _)) (fun j _ => rfl) ⟨by omega, by omega⟩ (by simp [hx_v0]) (fun j hj => by rw [zu_n g _ (by omega)]; exact hge j (by omega)) (by rw [show ((g (at_ + L) - c0) - b0) / 65536 = -1 by omega] at q9; omega) (by have := hx_val_lt hw9; rw [show ((g (at_ + L) - c0) - b0) / 65536 = -1 by omega] at q9; omega) hP hD hS (lv_sub hl [0, 1, 5, 6, 7, 8] rfl)
        · refine lv_lload_n hx hb dX11_takeAway_135 rfl (lv_at hl 6 rfl) ?_
          exact zr_lret hQ hx hb hr hlk dX11_takeAway_136 hK hP hD hS (by omega) (by omega) ⟨by omega, by omega⟩ (⟨_, rfl, hx_zu_dg hg (hx_mod _), (fun j hj => by rw [zu_n g _ (by omega)]; exact hge j (by omega)), by rw [show ((g (at_ + L) - c0) - b0) / 65536 = 0 by omega] at q9; omega, Or.inl ⟨rfl, by have := hx_val_nn hw9; rw [show ((g (at_ + L) - c0) - b0) / 65536 = 0 by omega] at q9; omega⟩⟩)
      · exfalso; omega
    | succ t ih =>
      intro i c0 b0 g H locs ls hit hg hge hc hb0 hv hP hD hS hl
      refine lv_iload hx hb dX11_takeAway_9 (lv_at hl 0 rfl) ?_
      refine lv_iload_n hx hb dX11_takeAway_11 rfl (lv_at hl 5 rfl) ?_
      refine zr_icmp_ge hx hb 96 ⟨by omega, by omega⟩ ⟨by omega, by omega⟩ dX11_takeAway_12 (by decide) (fun h_12 => ?_) (fun h_12 => ?_)
      · exfalso; omega
      · have bu := hg (at_ + i) (by omega)
        have bv := hvd i (by omega)
        have hr := tx_rng hz bv hc bu hb0
        refine lv_lload_n hx hb dX11_takeAway_15 rfl (lv_at hl 6 rfl) ?_
        refine lv_aload_n hx hb dX11_takeAway_16 rfl (lv_at hl 3 rfl) ?_
        refine va_get (D := D) (ci := 11) (v := .ref (bl)) (C := RX11) (T := TX11) (N := 14) hx hb hts hin11 hown hK hP 0 rfl rfl 4 (by decide) q_f_RX11_23_LimbSolverModel_below_I (fun _ h9 => h9) rfl dX11_takeAway_17 ?_
        refine lv_iload hx hb dX11_takeAway_20 (lv_at hl 0 rfl) ?_
        refine zr_iald hx hb hK hP 2 0 rfl rfl (i) (by omega) (by omega) (by omega) dX11_takeAway_22 ?_
        refine zr_i2l hx hb ⟨by omega, by omega⟩ dX11_takeAway_23 ?_
        refine zr_lmul hx hb dX11_takeAway_24 ?_
        refine lv_lload hx hb dX11_takeAway_25 (lv_at hl 2 rfl) ?_
        refine zr_ladd hx hb dX11_takeAway_27 ?_
        refine lv_lstore (lv' := [(10, .long (lZ (((z) * ((v) (i))) + (c0)))), (9, .int (iZ (((i : Nat) : Int)))), (7, .long (lZ (b0))), (5, .long (lZ (c0))), (0, .ref (mo)), (1, .int (iZ (((at_ : Nat) : Int)))), (2, .int (iZ (((L : Nat) : Int)))), (3, .long (lZ (z)))]) hx hb dX11_takeAway_28 hl (by decide) rfl (fun ls hl => ?_)
        refine lv_lload hx hb dX11_takeAway_30 (lv_at hl 0 rfl) ?_
        refine zr_ldc2 hx hb 65536 (by decide) hown q_constantLong_RX11_47_65536 dX11_takeAway_32 ?_
        refine zr_ldiv hx hb ⟨by omega, by omega⟩ ⟨by omega, by omega⟩ (by omega) (by omega) dX11_takeAway_35 ?_
        refine lv_lstore (lv' := [(5, .long (lZ ((((z) * ((v) (i))) + (c0)) / (65536)))), (10, .long (lZ (((z) * ((v) (i))) + (c0)))), (9, .int (iZ (((i : Nat) : Int)))), (7, .long (lZ (b0))), (0, .ref (mo)), (1, .int (iZ (((at_ : Nat) : Int)))), (2, .int (iZ (((L : Nat) : Int)))), (3, .long (lZ (z)))]) hx hb dX11_takeAway_36 hl (by decide) rfl (fun ls hl => ?_)
        refine lv_aload_n hx hb dX11_takeAway_38 rfl (lv_at hl 4 rfl) ?_
        refine va_get (D := D) (ci := 11) (v := .ref (tp)) (C := RX11) (T := TX11) (N := 14) hx hb hts hin11 hown hK hP 0 rfl rfl 3 (by decide) q_f_RX11_20_LimbSolverModel_top_I (fun _ h9 => h9) rfl dX11_takeAway_39 ?_
        refine lv_iload_n hx hb dX11_takeAway_42 rfl (lv_at hl 5 rfl) ?_
        refine lv_iload hx hb dX11_takeAway_43 (lv_at hl 2 rfl) ?_
        refine zr_iadd hx hb dX11_takeAway_45 ?_
        refine zr_iald hx hb hK hP 1 0 rfl rfl (at_ + i) (by omega) (by omega) (by omega) dX11_takeAway_46 ?_
        refine zr_i2l hx hb ⟨by omega, by omega⟩ dX11_takeAway_47 ?_
        refine lv_lload hx hb dX11_takeAway_48 (lv_at hl 1 rfl) ?_
        refine zr_ldc2 hx hb 65536 (by decide) hown q_constantLong_RX11_47_65536 dX11_takeAway_50 ?_
        refine zr_lrem hx hb ⟨by omega, by omega⟩ ⟨by omega, by omega⟩ (by omega) (by omega) dX11_takeAway_53 ?_
        refine zr_lsub hx hb dX11_takeAway_54 ?_
        refine lv_lload hx hb dX11_takeAway_55 (lv_at hl 3 rfl) ?_
        refine zr_lsub hx hb dX11_takeAway_57 ?_
        refine lv_lstore (lv' := [(12, .long (lZ ((((g) (at_ + i)) - ((((z) * ((v) (i))) + (c0)) % (65536))) - (b0)))), (5, .long (lZ ((((z) * ((v) (i))) + (c0)) / (65536)))), (10, .long (lZ (((z) * ((v) (i))) + (c0)))), (9, .int (iZ (((i : Nat) : Int)))), (7, .long (lZ (b0))), (0, .ref (mo)), (1, .int (iZ (((at_ : Nat) : Int)))), (2, .int (iZ (((L : Nat) : Int)))), (3, .long (lZ (z)))]) hx hb dX11_takeAway_58 hl (by decide) rfl (fun ls hl => ?_)
        refine lv_aload_n hx hb dX11_takeAway_60 rfl (lv_at hl 5 rfl) ?_
        refine va_get (D := D) (ci := 11) (v := .ref (tp)) (C := RX11) (T := TX11) (N := 14) hx hb hts hin11 hown hK hP 0 rfl rfl 3 (by decide) q_f_RX11_20_LimbSolverModel_top_I (fun _ h9 => h9) rfl dX11_takeAway_61 ?_
        refine lv_iload_n hx hb dX11_takeAway_64 rfl (lv_at hl 6 rfl) ?_
        refine lv_iload hx hb dX11_takeAway_65 (lv_at hl 3 rfl) ?_
        refine zr_iadd hx hb dX11_takeAway_67 ?_
        refine lv_lload hx hb dX11_takeAway_68 (lv_at hl 0 rfl) ?_
        refine zr_ldc2 hx hb 65535 (by decide) hown q_constantLong_RX11_80_65535 dX11_takeAway_70 ?_
        refine zr_land hx hb 16 (by decide) (by decide) dX11_takeAway_73 ?_
        refine zr_eql (((((g) (at_ + i)) - ((((z) * ((v) (i))) + (c0)) % (65536))) - (b0)) % 65536) (by rfl) ?_
        refine zr_l2i hx hb dX11_takeAway_74 ?_
        refine zr_iast hx hb hK hP hD hS 1 0 rfl rfl (at_ + i) (by omega) (by omega) (by omega) dX11_takeAway_75 (fun H locs hP hD hS => ?_)
        have hP : va_P D vwCl [(mo, mo_ fg le sg tp bl pr rs (n) (dn) (sv) (rk) (tn) (ms) (th)), (tp, aI cI (1300) (zu (g) (at_ + i) (((((g) (at_ + i)) - ((((z) * ((v) (i))) + (c0)) % (65536))) - (b0)) % 65536))), (bl, aI cI (1300) (v))] H := hP
        have hD : va_D A [(mo, mo_ fg le sg tp bl pr rs (n) (dn) (sv) (rk) (tn) (ms) (th)), (tp, aI cI (1300) (zu (g) (at_ + i) (((((g) (at_ + i)) - ((((z) * ((v) (i))) + (c0)) % (65536))) - (b0)) % 65536))), (bl, aI cI (1300) (v))] := hD
        refine lv_lload hx hb dX11_takeAway_76 (lv_at hl 0 rfl) ?_
        refine lv_lconst (v := lZ 0) hx hb dX11_takeAway_78 rfl ?_
        refine zr_lcmp_ge hx hb 87 ⟨by omega, by omega⟩ ⟨by omega, by omega⟩ dX11_takeAway_79 dX11_takeAway_80 (by decide) (fun h_79 => ?_) (fun h_79 => ?_)
        · refine lv_lconst (v := lZ 0) hx hb dX11_takeAway_87 rfl ?_
          refine lv_lstore (lv' := [(7, .long (lZ (0))), (12, .long (lZ ((((g) (at_ + i)) - ((((z) * ((v) (i))) + (c0)) % (65536))) - (b0)))), (5, .long (lZ ((((z) * ((v) (i))) + (c0)) / (65536)))), (10, .long (lZ (((z) * ((v) (i))) + (c0)))), (9, .int (iZ (((i : Nat) : Int)))), (0, .ref (mo)), (1, .int (iZ (((at_ : Nat) : Int)))), (2, .int (iZ (((L : Nat) : Int)))), (3, .long (lZ (z)))]) hx hb dX11_takeAway_88 hl (by decide) rfl (fun ls hl => ?_)
          refine lv_iinc (v := iZ (((i + 1 : Nat) : Int))) (lv' := [(9, .int (iZ (((i + 1 : Nat) : Int)))), (7, .long (lZ (0))), (12, .long (lZ ((((g) (at_ + i)) - ((((z) * ((v) (i))) + (c0)) % (65536))) - (b0)))), (5, .long (lZ ((((z) * ((v) (i))) + (c0)) / (65536)))), (10, .long (lZ (((z) * ((v) (i))) + (c0)))), (0, .ref (mo)), (1, .int (iZ (((at_ : Nat) : Int)))), (2, .int (iZ (((L : Nat) : Int)))), (3, .long (lZ (z)))]) hx hb dX11_takeAway_90 hl (k := 4) rfl (by rw [show ((i + 1 : Nat) : Int) = ((i : Nat) : Int) + 1 by omega]; exact iZ_add _ _) (by decide) rfl (fun ls hl => ?_)
          refine lv_goto (tgt := 9) hx hb dX11_takeAway_93 (by decide) ?_
          have q9 := tx_step hv (hge (at_ + i) (by omega)) (pp := z * v i + c0) rfl (vv := (g (at_ + i) - (z * v i + c0) % 65536) - b0) rfl
          rw [show -(((g (at_ + i) - (z * v i + c0) % 65536) - b0) / 65536) = 0 by omega] at q9
          exact ih (i + 1) ((z * v i + c0) / 65536) 0 (zu g (at_ + i) (((g (at_ + i) - (z * v i + c0) % 65536) - b0) % 65536)) H locs ls (by omega) (hx_zu_dg hg (hx_mod _)) (fun j hj => by rw [zu_n g _ (by omega)]; exact hge j (by omega)) ⟨by omega, by omega⟩ ⟨by omega, by omega⟩ q9 hP hD hS (lv_sub hl [0, 1, 3, 5, 6, 7, 8] rfl)
        · refine lv_lconst (v := lZ 1) hx hb dX11_takeAway_83 rfl ?_
          refine lv_goto (tgt := 88) hx hb dX11_takeAway_84 (by decide) ?_
          refine lv_lstore (lv' := [(7, .long (lZ (1))), (12, .long (lZ ((((g) (at_ + i)) - ((((z) * ((v) (i))) + (c0)) % (65536))) - (b0)))), (5, .long (lZ ((((z) * ((v) (i))) + (c0)) / (65536)))), (10, .long (lZ (((z) * ((v) (i))) + (c0)))), (9, .int (iZ (((i : Nat) : Int)))), (0, .ref (mo)), (1, .int (iZ (((at_ : Nat) : Int)))), (2, .int (iZ (((L : Nat) : Int)))), (3, .long (lZ (z)))]) hx hb dX11_takeAway_88 hl (by decide) rfl (fun ls hl => ?_)
          refine lv_iinc (v := iZ (((i + 1 : Nat) : Int))) (lv' := [(9, .int (iZ (((i + 1 : Nat) : Int)))), (7, .long (lZ (1))), (12, .long (lZ ((((g) (at_ + i)) - ((((z) * ((v) (i))) + (c0)) % (65536))) - (b0)))), (5, .long (lZ ((((z) * ((v) (i))) + (c0)) / (65536)))), (10, .long (lZ (((z) * ((v) (i))) + (c0)))), (0, .ref (mo)), (1, .int (iZ (((at_ : Nat) : Int)))), (2, .int (iZ (((L : Nat) : Int)))), (3, .long (lZ (z)))]) hx hb dX11_takeAway_90 hl (k := 4) rfl (by rw [show ((i + 1 : Nat) : Int) = ((i : Nat) : Int) + 1 by omega]; exact iZ_add _ _) (by decide) rfl (fun ls hl => ?_)
          refine lv_goto (tgt := 9) hx hb dX11_takeAway_93 (by decide) ?_
          have q9 := tx_step hv (hge (at_ + i) (by omega)) (pp := z * v i + c0) rfl (vv := (g (at_ + i) - (z * v i + c0) % 65536) - b0) rfl
          rw [show -(((g (at_ + i) - (z * v i + c0) % 65536) - b0) / 65536) = 1 by omega] at q9
          exact ih (i + 1) ((z * v i + c0) / 65536) 1 (zu g (at_ + i) (((g (at_ + i) - (z * v i + c0) % 65536) - b0) % 65536)) H locs ls (by omega) (hx_zu_dg hg (hx_mod _)) (fun j hj => by rw [zu_n g _ (by omega)]; exact hge j (by omega)) ⟨by omega, by omega⟩ ⟨by omega, by omega⟩ q9 hP hD hS (lv_sub hl [0, 1, 3, 5, 6, 7, 8] rfl)
  refine lv_lconst (v := lZ 0) hx hb dX11_takeAway_0 rfl ?_
  refine lv_lstore (lv' := [(5, .long (lZ (0))), (0, .ref (mo)), (1, .int (iZ (((at_ : Nat) : Int)))), (2, .int (iZ (((L : Nat) : Int)))), (3, .long (lZ (z)))]) hx hb dX11_takeAway_1 hl (by decide) rfl (fun ls hl => ?_)
  refine lv_lconst (v := lZ 0) hx hb dX11_takeAway_3 rfl ?_
  refine lv_lstore (lv' := [(7, .long (lZ (0))), (5, .long (lZ (0))), (0, .ref (mo)), (1, .int (iZ (((at_ : Nat) : Int)))), (2, .int (iZ (((L : Nat) : Int)))), (3, .long (lZ (z)))]) hx hb dX11_takeAway_4 hl (by decide) rfl (fun ls hl => ?_)
  refine lv_iconst (v := iZ 0) hx hb dX11_takeAway_6 rfl ?_
  refine lv_istore (lv' := [(9, .int (iZ (0))), (7, .long (lZ (0))), (5, .long (lZ (0))), (0, .ref (mo)), (1, .int (iZ (((at_ : Nat) : Int)))), (2, .int (iZ (((L : Nat) : Int)))), (3, .long (lZ (z)))]) hx hb dX11_takeAway_7 hl (by decide) rfl (fun ls hl => ?_)
  exact lp L 0 0 0 u s.heap [] ls (by omega) hu (fun j _ => rfl) ⟨by omega, by omega⟩ ⟨by omega, by omega⟩ (by simp [hx_v0]) hP hD hS (lv_sub hl [0, 1, 2, 3, 4, 5, 6] rfl)
