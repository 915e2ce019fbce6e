
theorem md_add_step {g x y : Nat → Int} {i : Nat} {c : Int} (h : hx_val g i + c * hx_p i = hx_val x i + hx_val y i) : hx_val (zu g i (((x i + y i) + c) % 65536)) (i + 1) + (((x i + y i) + c) / 65536) * hx_p (i + 1) = hx_val x (i + 1) + hx_val y (i + 1) := by
  rw [Int.add_comm (x i + y i) c, hx_step h, hx_vs, hx_vs, Int.add_mul]
  omega
theorem md_sub_step {g x y : Nat → Int} {i : Nat} {b : Int} (h : hx_val g i - b * hx_p i = hx_val x i - hx_val y i) : hx_val (zu g i (((x i - y i) - b) % 65536)) (i + 1) + (((x i - y i) - b) / 65536) * hx_p (i + 1) = hx_val x (i + 1) - hx_val y (i + 1) := by
  have h2 : hx_val g i + (-b) * hx_p i = hx_val x i - hx_val y i := by rw [Int.neg_mul]; omega
  have := hx_step (x := x i - y i) h2
  rw [show -b + (x i - y i) = (x i - y i) - b by omega] at this
  rw [this, hx_vs, hx_vs, Int.sub_mul]
  omega
theorem md_xval {F : Nat → Int} {s m k : Nat} {v : Int} (h : md_ok F s m v) (hk : m ≤ k) : hx_val (hx_x (fun i => F (mdA s + i)) m) k = v := by rw [hx_x_val _ _ _ hk]; exact h.2.2.2
theorem md_add_end {g : Nat → Int} {L M : Nat} {c v1 v2 : Int} (hg : hx_dg g L) (hc : 0 ≤ c ∧ c ≤ 1) (hL : L = M + 1) (h1 : v1 < hx_p M) (h2 : v2 < hx_p M) (h : hx_val g L + c * hx_p L = v1 + v2) : hx_val g L = v1 + v2 := by
  subst hL
  have b3 := hx_p_pos M
  have b4 : hx_p (M + 1) = 65536 * hx_p M := hx_ps M
  have b5 := hx_val_nn hg
  have hc0 : c = 0 := by
    rcases (show c = 0 ∨ c = 1 by omega) with q | q
    · exact q
    · subst q; rw [Int.one_mul] at h; omega
  subst hc0
  rw [Int.zero_mul, Int.add_zero] at h
  exact h
theorem md_sub_end {g : Nat → Int} {L : Nat} {b v1 v2 : Int} (hg : hx_dg g L) (hb : 0 ≤ b ∧ b ≤ 1) (h1 : v1 < hx_p L) (h2 : 0 ≤ v2 ∧ v2 ≤ v1) (h : hx_val g L - b * hx_p L = v1 - v2) : hx_val g L = v1 - v2 := by
  have b3 := hx_val_lt hg
  have hb0 : b = 0 := by
    rcases (show b = 0 ∨ b = 1 by omega) with q | q
    · exact q
    · subst q; rw [Int.one_mul] at h; omega
  subst hb0
  rw [Int.zero_mul] at h
  omega
theorem md_x_dg {F : Nat → Int} {s m : Nat} {v : Int} (h : md_ok F s m v) (k : Nat) : 0 ≤ hx_x (fun i => F (mdA s + i)) m k ∧ hx_x (fun i => F (mdA s + i)) m k < 65536 := hx_x_dg h.2.1 (k + 1) k (Nat.lt_succ_self k)
set_option maxHeartbeats 4000000 in
set_option maxRecDepth 100000 in
/-- Model.add -/
theorem c_madd (l : Launch) (D : va_G) (cI cJ cE cF cR : ClassId) (mo fg le sg tp bl pr rs : Nat) (n dn sv rk tn ms th : Int) (r9 s9 t9 a9 : Nat) (F Ln T0 : Nat → Int) (v1 v2 : Int) (hr9 : r9 < 188) (hs9 : s9 < 188) (ht9 : t9 < 188) (hn1 : md_n F Ln s9 v1) (hn2 : md_n F Ln t9 v2) (hb1 : v1 < hx_p a9) (hb2 : v2 < hx_p a9) (hfit : a9 + 1 ≤ mdC r9) : Cv l D (zty cI cJ cE cF cR) yX11_add wsX11_add (zRm 3 66) 0 0 [.ref (mo), .int (iZ (((r9 : Nat) : Int))), .int (iZ (((s9 : Nat) : Int))), .int (iZ (((t9 : Nat) : Int)))] [(mo, mo_ fg le sg tp bl pr rs (n) (dn) (sv) (rk) (tn) (ms) (th)), (fg, aI cI (52200) (F)), (le, aI cI (190) (Ln)), (tp, aI cI (1300) (T0))] (fun w1 => ∃ (G L1 T1 : Nat → Int), w1 = [(mo, mo_ fg le sg tp bl pr rs (n) (dn) (sv) (rk) (tn) (ms) (th)), (fg, aI cI (52200) (G)), (le, aI cI (190) (L1)), (tp, aI cI (1300) (T1))] ∧ md_w F Ln G L1 r9 (v1 + v2)) := by
  unfold Cv
  refine zs (Qc := zQv D _ _) (cc := cX11_add) (maxL := 8) (ret := none) (by decide) rfl (Nat.le_of_ble_eq_true rfl) ?_
  intro zp ze s zm below meth zc ls A args Q hQ hx hb hr hts hown hlk hml hnm hN hA hK hP hD hS hl
  have q_f_RX11_20_LimbSolverModel_top_I := hts (.fieldLink RX11 20 "LimbSolverModel" "top" "[I") (by decide +kernel)
  have hin11 : ∀ w ∈ wsX110, w ∈ wsX11_add := by decide +kernel
  have q_constant_RX11_53_65535 := hts (.constant RX11 53 (65535)) (by decide +kernel)
  have q_f_RX11_14_LimbSolverModel_length_I := hts (.fieldLink RX11 14 "LimbSolverModel" "length" "[I") (by decide +kernel)
  have hl : lv_has ls 8 [(0, .ref (mo)), (1, .int (iZ (((r9 : Nat) : Int)))), (2, .int (iZ (((s9 : Nat) : Int)))), (3, .int (iZ (((t9 : Nat) : Int))))] := hl
  obtain ⟨m, hLs, hvs⟩ := hn1
  obtain ⟨k, hLt, hvt⟩ := hn2
  have hm9 := hvs.1
  have hk9 := hvt.1
  have hcs := mdC_b s9
  have hct := mdC_b t9
  have hma : m ≤ a9 := hx_ok_cnt hvs hb1
  have hka : k ≤ a9 := hx_ok_cnt hvt hb2
  have hfc := mdC_b r9
  obtain ⟨M, hM1, hM2, hM3⟩ : ∃ M, m ≤ M ∧ k ≤ M ∧ (M = m ∨ M = k) := by
    rcases Nat.le_total m k with q | q
    · exact ⟨k, q, Nat.le_refl k, Or.inr rfl⟩
    · exact ⟨m, Nat.le_refl m, q, Or.inl rfl⟩
  have lp : ∀ (t : Nat) (i : Nat) (c0 : Int) (Tp : Nat → Int) (H : Heap) (locs : List Loc) (ls : Array Slot), (i + t = M + 1) → (hx_dg Tp i) → (0 ≤ c0 ∧ c0 ≤ 1) → (hx_val Tp i + c0 * hx_p i = hx_val (hx_x (fun i => F (mdA s9 + i)) m) i + hx_val (hx_x (fun i => F (mdA t9 + i)) k) i) →  va_P D vwCl [(mo, mo_ fg le sg tp bl pr rs (n) (dn) (sv) (rk) (tn) (ms) (th)), (fg, aI cI (52200) (F)), (le, aI cI (190) (Ln)), (tp, aI cI (1300) (Tp))] H → va_D A [(mo, mo_ fg le sg tp bl pr rs (n) (dn) (sv) (rk) (tn) (ms) (th)), (fg, aI cI (52200) (F)), (le, aI cI (190) (Ln)), (tp, aI cI (1300) (Tp))] → va_S A s.heap H locs → lv_has ls 8 [(6, .int (iZ (((i : Nat) : Int)))), (5, .int (iZ (c0))), (4, .int (iZ (((M + 1 : Nat) : Int)))), (0, .ref (mo)), (1, .int (iZ (((r9 : Nat) : Int)))), (2, .int (iZ (((s9 : Nat) : Int)))), (3, .int (iZ (((t9 : Nat) : Int))))] → W zp l ze (zRm 3 66) s zm args below meth zc H locs 0 0 Q (F0 zm 40 ls []) := by
    intro t
    induction t with
    | zero =>
      intro i c0 Tp H locs ls hit hgi hc hv hP hD hS hl
      obtain rfl : i = M + 1 := by omega
      refine lv_iload hx hb dX11_add_40 (lv_at hl 0 rfl) ?_
      refine lv_iload hx hb dX11_add_42 (lv_at hl 2 rfl) ?_
      refine zr_icmp_ge hx hb 92 ⟨by omega, by omega⟩ ⟨by omega, by omega⟩ dX11_add_44 (by decide) (fun h_44 => ?_) (fun h_44 => ?_)
      · refine lv_aload_n hx hb dX11_add_92 rfl (lv_at hl 3 rfl) ?_
        refine lv_iload_n hx hb dX11_add_93 rfl (lv_at hl 4 rfl) ?_
        refine lv_iload hx hb dX11_add_94 (lv_at hl 2 rfl) ?_
        refine zc_Vv (As := [.int (iZ (((r9 : Nat) : Int))), .int (iZ (((M + 1 : Nat) : Int)))]) (rest := []) (wr := []) ⟨hx, hb, hml, hown, hts⟩ (c_take l D cI cJ cE cF cR mo fg le sg tp bl pr rs n dn sv rk tn ms th r9 (M + 1) F Ln Tp (by omega) (by omega) hgi) (cwV 2 hts gX11_add_X11_take rfl rfl rfl (by decide +kernel) ⟨Nat.le_of_ble_eq_true rfl, Nat.le_of_ble_eq_true rfl⟩) hN hK hP hD hS hA [0, 1, 2, 3] [] rfl rfl (by decide) (by decide) (by decide) (q0 := 0) (ci := 11) rfl rfl rfl rfl hl.1 (Nat.le_of_ble_eq_true rfl) dX11_add_96 ⟨by decide, by decide⟩ (fun w1 H locs hp hP hD hS => ?_)
        obtain ⟨G, L1, hw9, hG⟩ := hp
        subst hw9
        have hP := hP.sub (ws' := [(mo, mo_ fg le sg tp bl pr rs (n) (dn) (sv) (rk) (tn) (ms) (th)), (fg, aI cI (52200) (G)), (le, aI cI (190) (L1)), (tp, aI cI (1300) (Tp))]) [0, 1, 2, 3] rfl
        have hD := hD.sub (ws' := [(mo, mo_ fg le sg tp bl pr rs (n) (dn) (sv) (rk) (tn) (ms) (th)), (fg, aI cI (52200) (G)), (le, aI cI (190) (L1)), (tp, aI cI (1300) (Tp))]) [0, 1, 2, 3] (by decide) rfl
        exact zr_vret hQ hx hb hr hlk dX11_add_99 hK hP hD hS (by omega) (by omega) (⟨G, L1, Tp, rfl, by have q := md_add_end hgi hc rfl (Int.lt_of_lt_of_le (hx_ok_lt hvs) (hx_p_le hM1)) (Int.lt_of_lt_of_le (hx_ok_lt hvt) (hx_p_le hM2)) (by rw [md_xval hvs (by omega), md_xval hvt (by omega)] at hv; exact hv); rw [q] at hG; exact hG⟩)
      · exfalso; omega
    | succ t ih =>
      intro i c0 Tp H locs ls hit hgi hc hv hP hD hS hl
      refine lv_iload hx hb dX11_add_40 (lv_at hl 0 rfl) ?_
      refine lv_iload hx hb dX11_add_42 (lv_at hl 2 rfl) ?_
      refine zr_icmp_ge hx hb 92 ⟨by omega, by omega⟩ ⟨by omega, by omega⟩ dX11_add_44 (by decide) (fun h_44 => ?_) (fun h_44 => ?_)
      · exfalso; omega
      · have bx := md_x_dg hvs i
        have by9 := md_x_dg hvt i
        refine lv_aload_n hx hb dX11_add_47 rfl (lv_at hl 3 rfl) ?_
        refine lv_iload_n hx hb dX11_add_48 rfl (lv_at hl 5 rfl) ?_
        refine lv_iload hx hb dX11_add_49 (lv_at hl 0 rfl) ?_
        refine zc_Vi (As := [.int (iZ (((s9 : Nat) : Int))), .int (iZ (((i : Nat) : Int)))]) (rest := []) (wr := [(tp, aI cI (1300) (Tp))]) ⟨hx, hb, hml, hown, hts⟩ (c_figureOf l D cI cJ cE cF cR mo fg le sg tp bl pr rs n dn sv rk tn ms th s9 i m F Ln v1 (by omega) (by omega) hLs hvs) (cwV 2 hts gX11_add_X11_figureOf rfl rfl rfl (by decide +kernel) ⟨Nat.le_of_ble_eq_true rfl, Nat.le_of_ble_eq_true rfl⟩) hN hK hP hD hS hA [0, 1, 2] [3] rfl rfl (by decide) (by decide) (by decide) (q0 := 0) (ci := 11) rfl rfl rfl rfl hl.1 (Nat.le_of_ble_eq_true rfl) dX11_add_51 ⟨by decide, by decide⟩ (fun z51 w1 H locs hz51 hp hP hD hS => ?_)
        obtain ⟨hw9, hx0⟩ := hp
        subst hw9
        subst hx0
        have hP := hP.sub (ws' := [(mo, mo_ fg le sg tp bl pr rs (n) (dn) (sv) (rk) (tn) (ms) (th)), (fg, aI cI (52200) (F)), (le, aI cI (190) (Ln)), (tp, aI cI (1300) (Tp))]) [1, 2, 3, 0] rfl
        have hD := hD.sub (ws' := [(mo, mo_ fg le sg tp bl pr rs (n) (dn) (sv) (rk) (tn) (ms) (th)), (fg, aI cI (52200) (F)), (le, aI cI (190) (Ln)), (tp, aI cI (1300) (Tp))]) [1, 2, 3, 0] (by decide) rfl
        refine lv_aload_n hx hb dX11_add_54 rfl (lv_at hl 3 rfl) ?_
        refine lv_iload_n hx hb dX11_add_55 rfl (lv_at hl 6 rfl) ?_
        refine lv_iload hx hb dX11_add_56 (lv_at hl 0 rfl) ?_
        refine zc_Vi (As := [.int (iZ (((t9 : Nat) : Int))), .int (iZ (((i : Nat) : Int)))]) (rest := [.int (iZ (hx_x (fun i => F (mdA s9 + i)) m i))]) (wr := [(tp, aI cI (1300) (Tp))]) ⟨hx, hb, hml, hown, hts⟩ (c_figureOf l D cI cJ cE cF cR mo fg le sg tp bl pr rs n dn sv rk tn ms th t9 i k F Ln v2 (by omega) (by omega) hLt hvt) (cwV 2 hts gX11_add_X11_figureOf rfl rfl rfl (by decide +kernel) ⟨Nat.le_of_ble_eq_true rfl, Nat.le_of_ble_eq_true rfl⟩) hN hK hP hD hS hA [0, 1, 2] [3] rfl rfl (by decide) (by decide) (by decide) (q0 := 0) (ci := 11) rfl rfl rfl rfl hl.1 (Nat.le_of_ble_eq_true rfl) dX11_add_58 ⟨by decide, by decide⟩ (fun z58 w1 H locs hz58 hp hP hD hS => ?_)
        obtain ⟨hw9, hx0⟩ := hp
        subst hw9
        subst hx0
        have hP := hP.sub (ws' := [(mo, mo_ fg le sg tp bl pr rs (n) (dn) (sv) (rk) (tn) (ms) (th)), (fg, aI cI (52200) (F)), (le, aI cI (190) (Ln)), (tp, aI cI (1300) (Tp))]) [1, 2, 3, 0] rfl
        have hD := hD.sub (ws' := [(mo, mo_ fg le sg tp bl pr rs (n) (dn) (sv) (rk) (tn) (ms) (th)), (fg, aI cI (52200) (F)), (le, aI cI (190) (Ln)), (tp, aI cI (1300) (Tp))]) [1, 2, 3, 0] (by decide) rfl
        refine zr_iadd hx hb dX11_add_61 ?_
        refine lv_iload hx hb dX11_add_62 (lv_at hl 1 rfl) ?_
        refine zr_iadd hx hb dX11_add_64 ?_
        refine lv_istore (lv' := [(7, .int (iZ (((hx_x (fun i => F (mdA s9 + i)) m i) + (hx_x (fun i => F (mdA t9 + i)) k i)) + (c0)))), (6, .int (iZ (((i : Nat) : Int)))), (5, .int (iZ (c0))), (4, .int (iZ (((M + 1 : Nat) : Int)))), (0, .ref (mo)), (1, .int (iZ (((r9 : Nat) : Int)))), (2, .int (iZ (((s9 : Nat) : Int)))), (3, .int (iZ (((t9 : Nat) : Int))))]) hx hb dX11_add_65 hl (by decide) rfl (fun ls hl => ?_)
        refine lv_aload_n hx hb dX11_add_67 rfl (lv_at hl 4 rfl) ?_
        refine va_get (D := D) (ci := 11) (v := .ref (tp)) (C := RX11) (T := TX11) (N := 14) hx hb hts hin11 hown hK hP 0 rfl rfl 3 (by decide) q_f_RX11_20_LimbSolverModel_top_I (fun _ h9 => h9) rfl dX11_add_68 ?_
        refine lv_iload hx hb dX11_add_71 (lv_at hl 1 rfl) ?_
        refine lv_iload hx hb dX11_add_73 (lv_at hl 0 rfl) ?_
        refine zr_ldc hx hb 65535 (by decide) hown q_constant_RX11_53_65535 dX11_add_75 ?_
        refine zr_iand hx hb 16 (by decide) (by decide) dX11_add_77 ?_
        refine zr_eqi (((hx_x (fun i => F (mdA s9 + i)) m i + hx_x (fun i => F (mdA t9 + i)) k i) + c0) % 65536) (by rfl) ?_
        refine zr_iast hx hb hK hP hD hS 3 0 rfl rfl (i) (by omega) (by omega) (by omega) dX11_add_78 (fun H locs hP hD hS => ?_)
        have hP : va_P D vwCl [(mo, mo_ fg le sg tp bl pr rs (n) (dn) (sv) (rk) (tn) (ms) (th)), (fg, aI cI (52200) (F)), (le, aI cI (190) (Ln)), (tp, aI cI (1300) (zu (Tp) (i) (((hx_x (fun i => F (mdA s9 + i)) m i + hx_x (fun i => F (mdA t9 + i)) k i) + c0) % 65536)))] H := hP
        have hD : va_D A [(mo, mo_ fg le sg tp bl pr rs (n) (dn) (sv) (rk) (tn) (ms) (th)), (fg, aI cI (52200) (F)), (le, aI cI (190) (Ln)), (tp, aI cI (1300) (zu (Tp) (i) (((hx_x (fun i => F (mdA s9 + i)) m i + hx_x (fun i => F (mdA t9 + i)) k i) + c0) % 65536)))] := hD
        refine lv_iload hx hb dX11_add_79 (lv_at hl 0 rfl) ?_
        refine lv_bipush (v := iZ 16) hx hb dX11_add_81 (by decide) ?_
        refine zr_ishr (k := 16) hx hb ⟨by omega, by omega⟩ (by omega) dX11_add_83 ?_
        refine zr_eqi (((hx_x (fun i => F (mdA s9 + i)) m i + hx_x (fun i => F (mdA t9 + i)) k i) + c0) / 65536) (by rfl) ?_
        refine lv_istore (lv' := [(5, .int (iZ (((hx_x (fun i => F (mdA s9 + i)) m i + hx_x (fun i => F (mdA t9 + i)) k i) + c0) / 65536))), (7, .int (iZ (((hx_x (fun i => F (mdA s9 + i)) m i) + (hx_x (fun i => F (mdA t9 + i)) k i)) + (c0)))), (6, .int (iZ (((i : Nat) : Int)))), (4, .int (iZ (((M + 1 : Nat) : Int)))), (0, .ref (mo)), (1, .int (iZ (((r9 : Nat) : Int)))), (2, .int (iZ (((s9 : Nat) : Int)))), (3, .int (iZ (((t9 : Nat) : Int))))]) hx hb dX11_add_84 hl (by decide) rfl (fun ls hl => ?_)
        refine lv_iinc (v := iZ (((i + 1 : Nat) : Int))) (lv' := [(6, .int (iZ (((i + 1 : Nat) : Int)))), (5, .int (iZ (((hx_x (fun i => F (mdA s9 + i)) m i + hx_x (fun i => F (mdA t9 + i)) k i) + c0) / 65536))), (7, .int (iZ (((hx_x (fun i => F (mdA s9 + i)) m i) + (hx_x (fun i => F (mdA t9 + i)) k i)) + (c0)))), (4, .int (iZ (((M + 1 : Nat) : Int)))), (0, .ref (mo)), (1, .int (iZ (((r9 : Nat) : Int)))), (2, .int (iZ (((s9 : Nat) : Int)))), (3, .int (iZ (((t9 : Nat) : Int))))]) hx hb dX11_add_86 hl (k := 2) rfl (by rw [show ((i + 1 : Nat) : Int) = ((i : Nat) : Int) + 1 by omega]; exact iZ_add _ _) (by decide) rfl (fun ls hl => ?_)
        refine lv_goto (tgt := 40) hx hb dX11_add_89 (by decide) ?_
        exact ih (i + 1) _ (zu Tp i (((hx_x (fun i => F (mdA s9 + i)) m i + hx_x (fun i => F (mdA t9 + i)) k i) + c0) % 65536)) H locs ls (by omega) (hx_zu_dgs hgi (hx_mod _)) ⟨by omega, by omega⟩ (md_add_step hv) hP hD hS (lv_sub hl [0, 1, 3, 4, 5, 6, 7] rfl)
  have jn : ∀  (H : Heap) (locs : List Loc) (ls : Array Slot),  va_P D vwCl [(mo, mo_ fg le sg tp bl pr rs (n) (dn) (sv) (rk) (tn) (ms) (th)), (fg, aI cI (52200) (F)), (le, aI cI (190) (Ln)), (tp, aI cI (1300) (T0))] H → va_D A [(mo, mo_ fg le sg tp bl pr rs (n) (dn) (sv) (rk) (tn) (ms) (th)), (fg, aI cI (52200) (F)), (le, aI cI (190) (Ln)), (tp, aI cI (1300) (T0))] → va_S A s.heap H locs → lv_has ls 8 [(0, .ref (mo)), (1, .int (iZ (((r9 : Nat) : Int)))), (2, .int (iZ (((s9 : Nat) : Int)))), (3, .int (iZ (((t9 : Nat) : Int))))] → W zp l ze (zRm 3 66) s zm args below meth zc H locs 0 0 Q (F0 zm 30 ls [.int (iZ ((M : Nat) : Int))]) := by
    intro  H locs ls  hP hD hS hl
    refine lv_iconst (v := iZ 1) hx hb dX11_add_30 rfl ?_
    refine zr_iadd hx hb dX11_add_31 ?_
    refine zr_eqi (((M + 1 : Nat) : Int)) (by omega) ?_
    refine lv_istore (lv' := [(4, .int (iZ (((M + 1 : Nat) : Int)))), (0, .ref (mo)), (1, .int (iZ (((r9 : Nat) : Int)))), (2, .int (iZ (((s9 : Nat) : Int)))), (3, .int (iZ (((t9 : Nat) : Int))))]) hx hb dX11_add_32 hl (by decide) rfl (fun ls hl => ?_)
    refine lv_iconst (v := iZ 0) hx hb dX11_add_34 rfl ?_
    refine lv_istore (lv' := [(5, .int (iZ (0))), (4, .int (iZ (((M + 1 : Nat) : Int)))), (0, .ref (mo)), (1, .int (iZ (((r9 : Nat) : Int)))), (2, .int (iZ (((s9 : Nat) : Int)))), (3, .int (iZ (((t9 : Nat) : Int))))]) hx hb dX11_add_35 hl (by decide) rfl (fun ls hl => ?_)
    refine lv_iconst (v := iZ 0) hx hb dX11_add_37 rfl ?_
    refine lv_istore (lv' := [(6, .int (iZ (0))), (5, .int (iZ (0))), (4, .int (iZ (((M + 1 : Nat) : Int)))), (0, .ref (mo)), (1, .int (iZ (((r9 : Nat) : Int)))), (2, .int (iZ (((s9 : Nat) : Int)))), (3, .int (iZ (((t9 : Nat) : Int))))]) hx hb dX11_add_38 hl (by decide) rfl (fun ls hl => ?_)
    exact lp (M + 1) 0 0 T0 H locs ls (by omega) (fun j hj => absurd hj (Nat.not_lt_zero j)) ⟨by omega, by omega⟩ (by simp [hx_v0]) hP hD hS (lv_sub hl [0, 1, 2, 3, 4, 5, 6] rfl)
  refine lv_aload_n hx hb dX11_add_0 rfl (lv_at hl 0 rfl) ?_
  refine va_get (D := D) (ci := 11) (v := .ref (le)) (C := RX11) (T := TX11) (N := 14) hx hb hts hin11 hown hK hP 0 rfl rfl 1 (by decide) q_f_RX11_14_LimbSolverModel_length_I (fun _ h9 => h9) rfl dX11_add_1 ?_
  refine lv_iload_n hx hb dX11_add_4 rfl (lv_at hl 2 rfl) ?_
  refine zr_iald hx hb hK hP 2 0 rfl rfl (s9) (by omega) (by omega) (by omega) dX11_add_5 ?_
  refine zr_eqi ((m : Nat) : Int) hLs ?_
  refine lv_aload_n hx hb dX11_add_6 rfl (lv_at hl 0 rfl) ?_
  refine va_get (D := D) (ci := 11) (v := .ref (le)) (C := RX11) (T := TX11) (N := 14) hx hb hts hin11 hown hK hP 0 rfl rfl 1 (by decide) q_f_RX11_14_LimbSolverModel_length_I (fun _ h9 => h9) rfl dX11_add_7 ?_
  refine lv_iload_n hx hb dX11_add_10 rfl (lv_at hl 3 rfl) ?_
  refine zr_iald hx hb hK hP 2 0 rfl rfl (t9) (by omega) (by omega) (by omega) dX11_add_11 ?_
  refine zr_eqi ((k : Nat) : Int) hLt ?_
  refine zr_icmp_le hx hb 24 ⟨by omega, by omega⟩ ⟨by omega, by omega⟩ dX11_add_12 (by decide) (fun h_12 => ?_) (fun h_12 => ?_)
  · refine lv_aload_n hx hb dX11_add_24 rfl (lv_at hl 0 rfl) ?_
    refine va_get (D := D) (ci := 11) (v := .ref (le)) (C := RX11) (T := TX11) (N := 14) hx hb hts hin11 hown hK hP 0 rfl rfl 1 (by decide) q_f_RX11_14_LimbSolverModel_length_I (fun _ h9 => h9) rfl dX11_add_25 ?_
    refine lv_iload_n hx hb dX11_add_28 rfl (lv_at hl 3 rfl) ?_
    refine zr_iald hx hb hK hP 2 0 rfl rfl (t9) (by omega) (by omega) (by omega) dX11_add_29 ?_
    refine zr_eqi ((k : Nat) : Int) hLt ?_
    refine zr_eqi ((M : Nat) : Int) (by omega) ?_
    exact jn s.heap [] ls hP hD hS hl
  · refine lv_aload_n hx hb dX11_add_15 rfl (lv_at hl 0 rfl) ?_
    refine va_get (D := D) (ci := 11) (v := .ref (le)) (C := RX11) (T := TX11) (N := 14) hx hb hts hin11 hown hK hP 0 rfl rfl 1 (by decide) q_f_RX11_14_LimbSolverModel_length_I (fun _ h9 => h9) rfl dX11_add_16 ?_
    refine lv_iload_n hx hb dX11_add_19 rfl (lv_at hl 2 rfl) ?_
    refine zr_iald hx hb hK hP 2 0 rfl rfl (s9) (by omega) (by omega) (by omega) dX11_add_20 ?_
    refine zr_eqi ((m : Nat) : Int) hLs ?_
    refine lv_goto (tgt := 30) hx hb dX11_add_21 (by decide) ?_
    refine zr_eqi ((M : Nat) : Int) (by omega) ?_
    exact jn s.heap [] ls hP hD hS hl

set_option maxHeartbeats 4000000 in
set_option maxRecDepth 100000 in
/-- Model.less -/
theorem c_mless (l : Launch) (D : va_G) (cI cJ cE cF cR : ClassId) (mo fg le sg tp bl pr rs : Nat) (n dn sv rk tn ms th : Int) (r9 s9 t9 a9 : Nat) (F Ln T0 : Nat → Int) (v1 v2 : Int) (hr9 : r9 < 188) (hs9 : s9 < 188) (ht9 : t9 < 188) (hn1 : md_n F Ln s9 v1) (hn2 : md_n F Ln t9 v2) (hle : v2 ≤ v1) (hb1 : v1 < hx_p a9) (hfit : a9 ≤ mdC r9) : Cv l D (zty cI cJ cE cF cR) yX11_less wsX11_less (zRm 3 66) 0 0 [.ref (mo), .int (iZ (((r9 : Nat) : Int))), .int (iZ (((s9 : Nat) : Int))), .int (iZ (((t9 : Nat) : Int)))] [(mo, mo_ fg le sg tp bl pr rs (n) (dn) (sv) (rk) (tn) (ms) (th)), (fg, aI cI (52200) (F)), (le, aI cI (190) (Ln)), (tp, aI cI (1300) (T0))] (fun w1 => ∃ (G L1 T1 : Nat → Int), w1 = [(mo, mo_ fg le sg tp bl pr rs (n) (dn) (sv) (rk) (tn) (ms) (th)), (fg, aI cI (52200) (G)), (le, aI cI (190) (L1)), (tp, aI cI (1300) (T1))] ∧ md_w F Ln G L1 r9 (v1 - v2)) := by
  unfold Cv
  refine zs (Qc := zQv D _ _) (cc := cX11_less) (maxL := 8) (ret := none) (by decide) rfl (Nat.le_of_ble_eq_true rfl) ?_
  intro zp ze s zm below meth zc ls A args Q hQ hx hb hr hts hown hlk hml hnm hN hA hK hP hD hS hl
  have q_f_RX11_20_LimbSolverModel_top_I := hts (.fieldLink RX11 20 "LimbSolverModel" "top" "[I") (by decide +kernel)
  have hin11 : ∀ w ∈ wsX110, w ∈ wsX11_less := by decide +kernel
  have q_constant_RX11_53_65535 := hts (.constant RX11 53 (65535)) (by decide +kernel)
  have q_f_RX11_14_LimbSolverModel_length_I := hts (.fieldLink RX11 14 "LimbSolverModel" "length" "[I") (by decide +kernel)
  have hl : lv_has ls 8 [(0, .ref (mo)), (1, .int (iZ (((r9 : Nat) : Int)))), (2, .int (iZ (((s9 : Nat) : Int)))), (3, .int (iZ (((t9 : Nat) : Int))))] := hl
  obtain ⟨m, hLs, hvs⟩ := hn1
  obtain ⟨k, hLt, hvt⟩ := hn2
  have hm9 := hvs.1
  have hk9 := hvt.1
  have hcs := mdC_b s9
  have hct := mdC_b t9
  have hma : m ≤ a9 := hx_ok_cnt hvs hb1
  have hfc := mdC_b r9
  have hkm : k ≤ m := hx_ok_cnt hvt (Int.lt_of_le_of_lt hle (hx_ok_lt hvs))
  have lp : ∀ (t : Nat) (i : Nat) (c0 : Int) (Tp : Nat → Int) (H : Heap) (locs : List Loc) (ls : Array Slot), (i + t = m) → (hx_dg Tp i) → (0 ≤ c0 ∧ c0 ≤ 1) → (hx_val Tp i - c0 * hx_p i = hx_val (hx_x (fun i => F (mdA s9 + i)) m) i - hx_val (hx_x (fun i => F (mdA t9 + i)) k) i) →  va_P D vwCl [(mo, mo_ fg le sg tp bl pr rs (n) (dn) (sv) (rk) (tn) (ms) (th)), (fg, aI cI (52200) (F)), (le, aI cI (190) (Ln)), (tp, aI cI (1300) (Tp))] H → va_D A [(mo, mo_ fg le sg tp bl pr rs (n) (dn) (sv) (rk) (tn) (ms) (th)), (fg, aI cI (52200) (F)), (le, aI cI (190) (Ln)), (tp, aI cI (1300) (Tp))] → va_S A s.heap H locs → lv_has ls 8 [(6, .int (iZ (((i : Nat) : Int)))), (5, .int (iZ (c0))), (4, .int (iZ (((m : Nat) : Int)))), (0, .ref (mo)), (1, .int (iZ (((r9 : Nat) : Int)))), (2, .int (iZ (((s9 : Nat) : Int)))), (3, .int (iZ (((t9 : Nat) : Int))))] → W zp l ze (zRm 3 66) s zm args below meth zc H locs 0 0 Q (F0 zm 14 ls []) := by
    intro t
    induction t with
    | zero =>
      intro i c0 Tp H locs ls hit hgi hc hv hP hD hS hl
      have hiM : i = m := by omega
      rw [hiM] at hgi hv
      refine lv_iload hx hb dX11_less_14 (lv_at hl 0 rfl) ?_
      refine lv_iload hx hb dX11_less_16 (lv_at hl 2 rfl) ?_
      refine zr_icmp_ge hx hb 71 ⟨by omega, by omega⟩ ⟨by omega, by omega⟩ dX11_less_18 (by decide) (fun h_18 => ?_) (fun h_18 => ?_)
      · refine lv_aload_n hx hb dX11_less_71 rfl (lv_at hl 3 rfl) ?_
        refine lv_iload_n hx hb dX11_less_72 rfl (lv_at hl 4 rfl) ?_
        refine lv_iload hx hb dX11_less_73 (lv_at hl 2 rfl) ?_
        refine zc_Vv (As := [.int (iZ (((r9 : Nat) : Int))), .int (iZ (((m : Nat) : Int)))]) (rest := []) (wr := []) ⟨hx, hb, hml, hown, hts⟩ (c_take l D cI cJ cE cF cR mo fg le sg tp bl pr rs n dn sv rk tn ms th r9 (m) F Ln Tp (by omega) (by omega) hgi) (cwV 2 hts gX11_less_X11_take rfl rfl rfl (by decide +kernel) ⟨Nat.le_of_ble_eq_true rfl, Nat.le_of_ble_eq_true rfl⟩) hN hK hP hD hS hA [0, 1, 2, 3] [] rfl rfl (by decide) (by decide) (by decide) (q0 := 0) (ci := 11) rfl rfl rfl rfl hl.1 (Nat.le_of_ble_eq_true rfl) dX11_less_75 ⟨by decide, by decide⟩ (fun w1 H locs hp hP hD hS => ?_)
        obtain ⟨G, L1, hw9, hG⟩ := hp
        subst hw9
        have hP := hP.sub (ws' := [(mo, mo_ fg le sg tp bl pr rs (n) (dn) (sv) (rk) (tn) (ms) (th)), (fg, aI cI (52200) (G)), (le, aI cI (190) (L1)), (tp, aI cI (1300) (Tp))]) [0, 1, 2, 3] rfl
        have hD := hD.sub (ws' := [(mo, mo_ fg le sg tp bl pr rs (n) (dn) (sv) (rk) (tn) (ms) (th)), (fg, aI cI (52200) (G)), (le, aI cI (190) (L1)), (tp, aI cI (1300) (Tp))]) [0, 1, 2, 3] (by decide) rfl
        exact zr_vret hQ hx hb hr hlk dX11_less_78 hK hP hD hS (by omega) (by omega) (⟨G, L1, Tp, rfl, by have q := md_sub_end hgi hc (hx_ok_lt hvs) ⟨hx_ok_nn hvt, hle⟩ (by rw [md_xval hvs (Nat.le_refl m), md_xval hvt hkm] at hv; exact hv); rw [q] at hG; exact hG⟩)
      · exfalso; omega
    | succ t ih =>
      intro i c0 Tp H locs ls hit hgi hc hv hP hD hS hl
      refine lv_iload hx hb dX11_less_14 (lv_at hl 0 rfl) ?_
      refine lv_iload hx hb dX11_less_16 (lv_at hl 2 rfl) ?_
      refine zr_icmp_ge hx hb 71 ⟨by omega, by omega⟩ ⟨by omega, by omega⟩ dX11_less_18 (by decide) (fun h_18 => ?_) (fun h_18 => ?_)
      · exfalso; omega
      · have bx := md_x_dg hvs i
        have by9 := md_x_dg hvt i
        refine lv_aload_n hx hb dX11_less_21 rfl (lv_at hl 3 rfl) ?_
        refine lv_iload_n hx hb dX11_less_22 rfl (lv_at hl 5 rfl) ?_
        refine lv_iload hx hb dX11_less_23 (lv_at hl 0 rfl) ?_
        refine zc_Vi (As := [.int (iZ (((s9 : Nat) : Int))), .int (iZ (((i : Nat) : Int)))]) (rest := []) (wr := [(tp, aI cI (1300) (Tp))]) ⟨hx, hb, hml, hown, hts⟩ (c_figureOf l D cI cJ cE cF cR mo fg le sg tp bl pr rs n dn sv rk tn ms th s9 i m F Ln v1 (by omega) (by omega) hLs hvs) (cwV 2 hts gX11_less_X11_figureOf rfl rfl rfl (by decide +kernel) ⟨Nat.le_of_ble_eq_true rfl, Nat.le_of_ble_eq_true rfl⟩) hN hK hP hD hS hA [0, 1, 2] [3] rfl rfl (by decide) (by decide) (by decide) (q0 := 0) (ci := 11) rfl rfl rfl rfl hl.1 (Nat.le_of_ble_eq_true rfl) dX11_less_25 ⟨by decide, by decide⟩ (fun z25 w1 H locs hz25 hp hP hD hS => ?_)
        obtain ⟨hw9, hx0⟩ := hp
        subst hw9
        subst hx0
        have hP := hP.sub (ws' := [(mo, mo_ fg le sg tp bl pr rs (n) (dn) (sv) (rk) (tn) (ms) (th)), (fg, aI cI (52200) (F)), (le, aI cI (190) (Ln)), (tp, aI cI (1300) (Tp))]) [1, 2, 3, 0] rfl
        have hD := hD.sub (ws' := [(mo, mo_ fg le sg tp bl pr rs (n) (dn) (sv) (rk) (tn) (ms) (th)), (fg, aI cI (52200) (F)), (le, aI cI (190) (Ln)), (tp, aI cI (1300) (Tp))]) [1, 2, 3, 0] (by decide) rfl
        refine lv_aload_n hx hb dX11_less_28 rfl (lv_at hl 3 rfl) ?_
        refine lv_iload_n hx hb dX11_less_29 rfl (lv_at hl 6 rfl) ?_
        refine lv_iload hx hb dX11_less_30 (lv_at hl 0 rfl) ?_
        refine zc_Vi (As := [.int (iZ (((t9 : Nat) : Int))), .int (iZ (((i : Nat) : Int)))]) (rest := [.int (iZ (hx_x (fun i => F (mdA s9 + i)) m i))]) (wr := [(tp, aI cI (1300) (Tp))]) ⟨hx, hb, hml, hown, hts⟩ (c_figureOf l D cI cJ cE cF cR mo fg le sg tp bl pr rs n dn sv rk tn ms th t9 i k F Ln v2 (by omega) (by omega) hLt hvt) (cwV 2 hts gX11_less_X11_figureOf rfl rfl rfl (by decide +kernel) ⟨Nat.le_of_ble_eq_true rfl, Nat.le_of_ble_eq_true rfl⟩) hN hK hP hD hS hA [0, 1, 2] [3] rfl rfl (by decide) (by decide) (by decide) (q0 := 0) (ci := 11) rfl rfl rfl rfl hl.1 (Nat.le_of_ble_eq_true rfl) dX11_less_32 ⟨by decide, by decide⟩ (fun z32 w1 H locs hz32 hp hP hD hS => ?_)
        obtain ⟨hw9, hx0⟩ := hp
        subst hw9
        subst hx0
        have hP := hP.sub (ws' := [(mo, mo_ fg le sg tp bl pr rs (n) (dn) (sv) (rk) (tn) (ms) (th)), (fg, aI cI (52200) (F)), (le, aI cI (190) (Ln)), (tp, aI cI (1300) (Tp))]) [1, 2, 3, 0] rfl
        have hD := hD.sub (ws' := [(mo, mo_ fg le sg tp bl pr rs (n) (dn) (sv) (rk) (tn) (ms) (th)), (fg, aI cI (52200) (F)), (le, aI cI (190) (Ln)), (tp, aI cI (1300) (Tp))]) [1, 2, 3, 0] (by decide) rfl
        refine zr_isub hx hb dX11_less_35 ?_
        refine lv_iload hx hb dX11_less_36 (lv_at hl 1 rfl) ?_
        refine zr_isub hx hb dX11_less_38 ?_
        refine lv_istore (lv' := [(7, .int (iZ (((hx_x (fun i => F (mdA s9 + i)) m i) - (hx_x (fun i => F (mdA t9 + i)) k i)) - (c0)))), (6, .int (iZ (((i : Nat) : Int)))), (5, .int (iZ (c0))), (4, .int (iZ (((m : Nat) : Int)))), (0, .ref (mo)), (1, .int (iZ (((r9 : Nat) : Int)))), (2, .int (iZ (((s9 : Nat) : Int)))), (3, .int (iZ (((t9 : Nat) : Int))))]) hx hb dX11_less_39 hl (by decide) rfl (fun ls hl => ?_)
        refine lv_aload_n hx hb dX11_less_41 rfl (lv_at hl 4 rfl) ?_
        refine va_get (D := D) (ci := 11) (v := .ref (tp)) (C := RX11) (T := TX11) (N := 14) hx hb hts hin11 hown hK hP 0 rfl rfl 3 (by decide) q_f_RX11_20_LimbSolverModel_top_I (fun _ h9 => h9) rfl dX11_less_42 ?_
        refine lv_iload hx hb dX11_less_45 (lv_at hl 1 rfl) ?_
        refine lv_iload hx hb dX11_less_47 (lv_at hl 0 rfl) ?_
        refine zr_ldc hx hb 65535 (by decide) hown q_constant_RX11_53_65535 dX11_less_49 ?_
        refine zr_iand hx hb 16 (by decide) (by decide) dX11_less_51 ?_
        refine zr_eqi (((hx_x (fun i => F (mdA s9 + i)) m i - hx_x (fun i => F (mdA t9 + i)) k i) - c0) % 65536) (by rfl) ?_
        refine zr_iast hx hb hK hP hD hS 3 0 rfl rfl (i) (by omega) (by omega) (by omega) dX11_less_52 (fun H locs hP hD hS => ?_)
        have hP : va_P D vwCl [(mo, mo_ fg le sg tp bl pr rs (n) (dn) (sv) (rk) (tn) (ms) (th)), (fg, aI cI (52200) (F)), (le, aI cI (190) (Ln)), (tp, aI cI (1300) (zu (Tp) (i) (((hx_x (fun i => F (mdA s9 + i)) m i - hx_x (fun i => F (mdA t9 + i)) k i) - c0) % 65536)))] H := hP
        have hD : va_D A [(mo, mo_ fg le sg tp bl pr rs (n) (dn) (sv) (rk) (tn) (ms) (th)), (fg, aI cI (52200) (F)), (le, aI cI (190) (Ln)), (tp, aI cI (1300) (zu (Tp) (i) (((hx_x (fun i => F (mdA s9 + i)) m i - hx_x (fun i => F (mdA t9 + i)) k i) - c0) % 65536)))] := hD
        refine lv_iload hx hb dX11_less_53 (lv_at hl 0 rfl) ?_
        refine zr_if_ge hx hb 62 ⟨by omega, by omega⟩ dX11_less_55 (by decide) (fun h_55 => ?_) (fun h_55 => ?_)
        · refine lv_iconst (v := iZ 0) hx hb dX11_less_62 rfl ?_
          refine lv_istore (lv' := [(5, .int (iZ (0))), (7, .int (iZ (((hx_x (fun i => F (mdA s9 + i)) m i) - (hx_x (fun i => F (mdA t9 + i)) k i)) - (c0)))), (6, .int (iZ (((i : Nat) : Int)))), (4, .int (iZ (((m : Nat) : Int)))), (0, .ref (mo)), (1, .int (iZ (((r9 : Nat) : Int)))), (2, .int (iZ (((s9 : Nat) : Int)))), (3, .int (iZ (((t9 : Nat) : Int))))]) hx hb dX11_less_63 hl (by decide) rfl (fun ls hl => ?_)
          refine lv_iinc (v := iZ (((i + 1 : Nat) : Int))) (lv' := [(6, .int (iZ (((i + 1 : Nat) : Int)))), (5, .int (iZ (0))), (7, .int (iZ (((hx_x (fun i => F (mdA s9 + i)) m i) - (hx_x (fun i => F (mdA t9 + i)) k i)) - (c0)))), (4, .int (iZ (((m : Nat) : Int)))), (0, .ref (mo)), (1, .int (iZ (((r9 : Nat) : Int)))), (2, .int (iZ (((s9 : Nat) : Int)))), (3, .int (iZ (((t9 : Nat) : Int))))]) hx hb dX11_less_65 hl (k := 2) rfl (by rw [show ((i + 1 : Nat) : Int) = ((i : Nat) : Int) + 1 by omega]; exact iZ_add _ _) (by decide) rfl (fun ls hl => ?_)
          refine lv_goto (tgt := 14) hx hb dX11_less_68 (by decide) ?_
          have hst := md_sub_step hv
          rw [show ((hx_x (fun i => F (mdA s9 + i)) m i - hx_x (fun i => F (mdA t9 + i)) k i) - c0) / 65536 = 0 by omega] at hst
          exact ih (i + 1) 0 (zu Tp i (((hx_x (fun i => F (mdA s9 + i)) m i - hx_x (fun i => F (mdA t9 + i)) k i) - c0) % 65536)) H locs ls (by omega) (hx_zu_dgs hgi (hx_mod _)) ⟨by omega, by omega⟩ (by omega) hP hD hS (lv_sub hl [0, 1, 3, 4, 5, 6, 7] rfl)
        · refine lv_iconst (v := iZ 1) hx hb dX11_less_58 rfl ?_
          refine lv_goto (tgt := 63) hx hb dX11_less_59 (by decide) ?_
          refine lv_istore (lv' := [(5, .int (iZ (1))), (7, .int (iZ (((hx_x (fun i => F (mdA s9 + i)) m i) - (hx_x (fun i => F (mdA t9 + i)) k i)) - (c0)))), (6, .int (iZ (((i : Nat) : Int)))), (4, .int (iZ (((m : Nat) : Int)))), (0, .ref (mo)), (1, .int (iZ (((r9 : Nat) : Int)))), (2, .int (iZ (((s9 : Nat) : Int)))), (3, .int (iZ (((t9 : Nat) : Int))))]) hx hb dX11_less_63 hl (by decide) rfl (fun ls hl => ?_)
          refine lv_iinc (v := iZ (((i + 1 : Nat) : Int))) (lv' := [(6, .int (iZ (((i + 1 : Nat) : Int)))), (5, .int (iZ (1))), (7, .int (iZ (((hx_x (fun i => F (mdA s9 + i)) m i) - (hx_x (fun i => F (mdA t9 + i)) k i)) - (c0)))), (4, .int (iZ (((m : Nat) : Int)))), (0, .ref (mo)), (1, .int (iZ (((r9 : Nat) : Int)))), (2, .int (iZ (((s9 : Nat) : Int)))), (3, .int (iZ (((t9 : Nat) : Int))))]) hx hb dX11_less_65 hl (k := 2) rfl (by rw [show ((i + 1 : Nat) : Int) = ((i : Nat) : Int) + 1 by omega]; exact iZ_add _ _) (by decide) rfl (fun ls hl => ?_)
          refine lv_goto (tgt := 14) hx hb dX11_less_68 (by decide) ?_
          have hst := md_sub_step hv
          rw [show ((hx_x (fun i => F (mdA s9 + i)) m i - hx_x (fun i => F (mdA t9 + i)) k i) - c0) / 65536 = -1 by omega] at hst
          exact ih (i + 1) 1 (zu Tp i (((hx_x (fun i => F (mdA s9 + i)) m i - hx_x (fun i => F (mdA t9 + i)) k i) - c0) % 65536)) H locs ls (by omega) (hx_zu_dgs hgi (hx_mod _)) ⟨by omega, by omega⟩ (by omega) hP hD hS (lv_sub hl [0, 1, 3, 4, 5, 6, 7] rfl)
  refine lv_aload_n hx hb dX11_less_0 rfl (lv_at hl 0 rfl) ?_
  refine va_get (D := D) (ci := 11) (v := .ref (le)) (C := RX11) (T := TX11) (N := 14) hx hb hts hin11 hown hK hP 0 rfl rfl 1 (by decide) q_f_RX11_14_LimbSolverModel_length_I (fun _ h9 => h9) rfl dX11_less_1 ?_
  refine lv_iload_n hx hb dX11_less_4 rfl (lv_at hl 2 rfl) ?_
  refine zr_iald hx hb hK hP 2 0 rfl rfl (s9) (by omega) (by omega) (by omega) dX11_less_5 ?_
  refine zr_eqi ((m : Nat) : Int) hLs ?_
  refine lv_istore (lv' := [(4, .int (iZ (((m : Nat) : Int)))), (0, .ref (mo)), (1, .int (iZ (((r9 : Nat) : Int)))), (2, .int (iZ (((s9 : Nat) : Int)))), (3, .int (iZ (((t9 : Nat) : Int))))]) hx hb dX11_less_6 hl (by decide) rfl (fun ls hl => ?_)
  refine lv_iconst (v := iZ 0) hx hb dX11_less_8 rfl ?_
  refine lv_istore (lv' := [(5, .int (iZ (0))), (4, .int (iZ (((m : Nat) : Int)))), (0, .ref (mo)), (1, .int (iZ (((r9 : Nat) : Int)))), (2, .int (iZ (((s9 : Nat) : Int)))), (3, .int (iZ (((t9 : Nat) : Int))))]) hx hb dX11_less_9 hl (by decide) rfl (fun ls hl => ?_)
  refine lv_iconst (v := iZ 0) hx hb dX11_less_11 rfl ?_
  refine lv_istore (lv' := [(6, .int (iZ (0))), (5, .int (iZ (0))), (4, .int (iZ (((m : Nat) : Int)))), (0, .ref (mo)), (1, .int (iZ (((r9 : Nat) : Int)))), (2, .int (iZ (((s9 : Nat) : Int)))), (3, .int (iZ (((t9 : Nat) : Int))))]) hx hb dX11_less_12 hl (by decide) rfl (fun ls hl => ?_)
  exact lp m 0 0 T0 s.heap [] ls (by omega) (fun j hj => absurd hj (Nat.not_lt_zero j)) ⟨by omega, by omega⟩ (by simp [hx_v0]) hP hD hS (lv_sub hl [0, 1, 2, 3, 4, 5, 6] rfl)
