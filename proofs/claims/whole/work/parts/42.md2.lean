theorem hx_mul_dg {x y : Int} (hx : 0 ≤ x ∧ x < 65536) (hy : 0 ≤ y ∧ y < 65536) : 0 ≤ x * y ∧ x * y ≤ 4294836225 := by
  have h1 : 0 ≤ x * y := Int.mul_nonneg hx.1 hy.1
  have h2 : x * y ≤ 65535 * y := Int.mul_le_mul_of_nonneg_right (by omega) hy.1
  omega
theorem hx_mul_step {g e : Nat → Int} {i j L : Nat} {c f V : Int} (hL : i + j < L) (h : hx_val g L + c * hx_p (i + j) = V + f * hx_val e j * hx_p i) : hx_val (zu g (i + j) ((c + (f * e j + g (i + j))) % 65536)) L + ((c + (f * e j + g (i + j))) / 65536) * hx_p (i + (j + 1)) = V + f * hx_val e (j + 1) * hx_p i := by
  rw [hx_zu_val hL, hx_vs, ← Nat.add_assoc, hx_ps, Int.sub_mul]
  have h1 := hx_carry (c + (f * e j + g (i + j))) (hx_p (i + j))
  have h2 : f * (hx_val e j + e j * hx_p j) * hx_p i = f * hx_val e j * hx_p i + f * e j * hx_p (i + j) := by
    rw [hx_p_add, Int.mul_add, Int.add_mul]
    congr 1
    simp only [Int.mul_assoc, Int.mul_comm, Int.mul_left_comm]
  rw [Int.add_mul, Int.add_mul] at h1
  rw [h2]
  omega
theorem hx_mul_out {g e d : Nat → Int} {i k L : Nat} {c E : Int} (hL : i + k < L) (hz : g (i + k) = 0) (hE : hx_val e k = E) (h : hx_val g L + c * hx_p (i + k) = hx_val d i * E + d i * hx_val e k * hx_p i) : hx_val (zu g (i + k) c) L = hx_val d (i + 1) * E := by
  rw [hx_zu_val hL, hz, Int.sub_zero, h, hE, hx_vs, Int.add_mul, Int.mul_assoc, Int.mul_assoc, Int.mul_comm E]
theorem hx_val0 {g : Nat → Int} : ∀ {n : Nat}, (∀ j, j < n → g j = 0) → hx_val g n = 0 := by
  intro n
  induction n with
  | zero => intro _; rfl
  | succ n ih => intro h; rw [hx_vs, ih (fun j hj => h j (by omega)), h n (by omega), Int.zero_mul]; rfl
theorem hx_carry_lt {c f x y : Int} (hc : 0 ≤ c ∧ c < 65536) (hf : 0 ≤ f ∧ f < 65536) (hx : 0 ≤ x ∧ x < 65536) (hy : 0 ≤ y ∧ y < 65536) : 0 ≤ (c + (f * x + y)) / 65536 ∧ (c + (f * x + y)) / 65536 < 65536 := by
  have := hx_mul_dg hf hx
  omega

theorem md_mul_step {g e : Nat → Int} {i j L : Nat} {c f V : Int} (hL : i + j < L) (h : hx_val g L + c * hx_p (i + j) = V + f * hx_val e j * hx_p i) : hx_val (zu g (i + j) (((f * e j + g (i + j)) + c) % 65536)) L + (((f * e j + g (i + j)) + c) / 65536) * hx_p (i + (j + 1)) = V + f * hx_val e (j + 1) * hx_p i := by
  rw [Int.add_comm (f * e j + g (i + j)) c]
  exact hx_mul_step hL h

theorem hx_p4 : hx_p 4 = 18446744073709551616 := by decide
theorem hx_as_step {g : Nat → Int} {n : Nat} {r z : Int} (h : hx_val g n + r * hx_p n = z) : hx_val (zu g n (r % 65536)) (n + 1) + (r / 65536) * hx_p (n + 1) = z := by
  have := hx_step (x := 0) h
  rw [Int.add_zero, Int.zero_mul, Int.add_zero] at this
  exact this
theorem hx_as_end {g : Nat → Int} {n room : Nat} {r z : Int} (hn : n ≤ room) (hd : hx_dg g n) (hr : r = 0) (hc : r = 0 → hx_can g n) (h : hx_val g n + r * hx_p n = z) : hx_ok g n room z := by
  refine ⟨hn, hd, hc hr, ?_⟩
  rw [hr, Int.zero_mul, Int.add_zero] at h
  exact h

theorem md_cp {F G : Nat → Int} {r s k : Nat} {v : Int} (h : md_ok F s k v) (hk : k ≤ mdC r) (e : ∀ j : Nat, j < k → G (mdA r + j) = F (mdA s + j)) : md_ok G r k v := by
  obtain ⟨h1, h2, h3, h4⟩ := h
  refine ⟨hk, fun i hi => by dsimp only; rw [e i hi]; exact h2 i hi, fun h0 => by dsimp only; rw [e (k - 1) (by omega)]; exact h3 h0, ?_⟩
  rw [← h4]
  exact hx_val_congr (fun i hi => e i hi)
set_option maxHeartbeats 4000000 in
set_option maxRecDepth 100000 in
/-- Model.times -/
theorem c_mtimes (l : Launch) (D : va_G) (cI cJ cE cF cR : ClassId) (mo fg le sg tp bl pr rs : Nat) (n dn sv rk tn ms th : Int) (r9 s9 t9 a9 b9 : Nat) (F Ln T0 : Nat → Int) (v1 v2 : Int) (hr9 : r9 < 188) (hs9 : s9 < 188) (ht9 : t9 < 188) (hn1 : md_n F Ln s9 v1) (hn2 : md_n F Ln t9 v2) (hb1 : v1 < hx_p a9) (hb2 : v2 < hx_p b9) (hfit : a9 + b9 ≤ mdC r9) : Cv l D (zty cI cJ cE cF cR) yX11_times wsX11_times (zRm 3 66) 0 0 [.ref (mo), .int (iZ (((r9 : Nat) : Int))), .int (iZ (((s9 : Nat) : Int))), .int (iZ (((t9 : Nat) : Int)))] [(mo, mo_ fg le sg tp bl pr rs (n) (dn) (sv) (rk) (tn) (ms) (th)), (fg, aI cI (52200) (F)), (le, aI cI (190) (Ln)), (tp, aI cI (1300) (T0))] (fun w1 => ∃ (G L1 T1 : Nat → Int), w1 = [(mo, mo_ fg le sg tp bl pr rs (n) (dn) (sv) (rk) (tn) (ms) (th)), (fg, aI cI (52200) (G)), (le, aI cI (190) (L1)), (tp, aI cI (1300) (T1))] ∧ md_w F Ln G L1 r9 (v1 * v2)) := by
  unfold Cv
  refine zs (Qc := zQv D _ _) (cc := cX11_times) (maxL := 13) (ret := none) (by decide) rfl (Nat.le_of_ble_eq_true rfl) ?_
  intro zp ze s zm below meth zc ls A args Q hQ hx hb hr hts hown hlk hml hnm hN hA hK hP hD hS hl
  have q_f_RX11_14_LimbSolverModel_length_I := hts (.fieldLink RX11 14 "LimbSolverModel" "length" "[I") (by decide +kernel)
  have hin11 : ∀ w ∈ wsX110, w ∈ wsX11_times := by decide +kernel
  have q_f_RX11_20_LimbSolverModel_top_I := hts (.fieldLink RX11 20 "LimbSolverModel" "top" "[I") (by decide +kernel)
  have q_f_RX11_8_LimbSolverModel_figure_I := hts (.fieldLink RX11 8 "LimbSolverModel" "figure" "[I") (by decide +kernel)
  have q_constantLong_RX11_47_65536 := hts (.constantLong RX11 47 (65536)) (by decide +kernel)
  have hl : lv_has ls 13 [(0, .ref (mo)), (1, .int (iZ (((r9 : Nat) : Int)))), (2, .int (iZ (((s9 : Nat) : Int)))), (3, .int (iZ (((t9 : Nat) : Int))))] := hl
  obtain ⟨m, hLs, hvs⟩ := hn1
  obtain ⟨k, hLt, hvt⟩ := hn2
  have hm9 := hvs.1
  have hk9 := hvt.1
  have hcs := mdC_b s9
  have hct := mdC_b t9
  have hma : m ≤ a9 := hx_ok_cnt hvs hb1
  have hka : k ≤ b9 := hx_ok_cnt hvt hb2
  have hfc := mdC_b r9
  have hAs := mdA_b hs9
  have hAt := mdA_b ht9
  have outer : ∀ (t : Nat) (i : Nat) (Tp : Nat → Int) (H : Heap) (locs : List Loc) (ls : Array Slot), (i + t = m) → (hx_dg Tp (m + k)) → (∀ x : Nat, i + k ≤ x → x < m + k → Tp x = 0) → (hx_val Tp (m + k) = hx_val (fun i => F (mdA s9 + i)) i * v2) →  va_P D vwCl [(mo, mo_ fg le sg tp bl pr rs (n) (dn) (sv) (rk) (tn) (ms) (th)), (fg, aI cI (52200) (F)), (le, aI cI (190) (Ln)), (tp, aI cI (1300) (Tp))] H → va_D A [(mo, mo_ fg le sg tp bl pr rs (n) (dn) (sv) (rk) (tn) (ms) (th)), (fg, aI cI (52200) (F)), (le, aI cI (190) (Ln)), (tp, aI cI (1300) (Tp))] → va_S A s.heap H locs → lv_has ls 13 [(5, .int (iZ (((i : Nat) : Int)))), (4, .int (iZ (((m + k : Nat) : Int)))), (0, .ref (mo)), (1, .int (iZ (((r9 : Nat) : Int)))), (2, .int (iZ (((s9 : Nat) : Int)))), (3, .int (iZ (((t9 : Nat) : Int))))] → W zp l ze (zRm 3 66) s zm args below meth zc H locs 0 0 Q (F0 zm 42 ls []) := by
    intro t
    induction t with
    | zero =>
      intro i Tp H locs ls hit hgd hgz hv hP hD hS hl
      have hin0 : i = m := by omega
      refine lv_iload hx hb dX11_times_42 (lv_at hl 0 rfl) ?_
      refine lv_aload_n hx hb dX11_times_44 rfl (lv_at hl 2 rfl) ?_
      refine va_get (D := D) (ci := 11) (v := .ref (le)) (C := RX11) (T := TX11) (N := 14) hx hb hts hin11 hown hK hP 0 rfl rfl 1 (by decide) q_f_RX11_14_LimbSolverModel_length_I (fun _ h9 => h9) rfl dX11_times_45 ?_
      refine lv_iload_n hx hb dX11_times_48 rfl (lv_at hl 4 rfl) ?_
      refine zr_iald hx hb hK hP 2 0 rfl rfl (s9) (by omega) (by omega) (by omega) dX11_times_49 ?_
      refine zr_eqi ((m : Nat) : Int) hLs ?_
      refine zr_icmp_ge hx hb 172 ⟨by omega, by omega⟩ ⟨by omega, by omega⟩ dX11_times_50 (by decide) (fun h_50 => ?_) (fun h_50 => ?_)
      · refine lv_aload_n hx hb dX11_times_172 rfl (lv_at hl 2 rfl) ?_
        refine lv_iload_n hx hb dX11_times_173 rfl (lv_at hl 3 rfl) ?_
        refine lv_iload hx hb dX11_times_174 (lv_at hl 1 rfl) ?_
        refine zc_Vv (As := [.int (iZ (((r9 : Nat) : Int))), .int (iZ (((m + k : Nat) : Int)))]) (rest := []) (wr := []) ⟨hx, hb, hml, hown, hts⟩ (c_take l D cI cJ cE cF cR mo fg le sg tp bl pr rs n dn sv rk tn ms th r9 (m + k) F Ln Tp (by omega) (by omega) hgd) (cwV 2 hts gX11_times_X11_take rfl rfl rfl (by decide +kernel) ⟨Nat.le_of_ble_eq_true rfl, Nat.le_of_ble_eq_true rfl⟩) hN hK hP hD hS hA [0, 1, 2, 3] [] rfl rfl (by decide) (by decide) (by decide) (q0 := 0) (ci := 11) rfl rfl rfl rfl hl.1 (Nat.le_of_ble_eq_true rfl) dX11_times_176 ⟨by decide, by decide⟩ (fun w1 H locs hp hP hD hS => ?_)
        obtain ⟨G, L1, hw9, hG⟩ := hp
        subst hw9
        have hP := hP.sub (ws' := [(mo, mo_ fg le sg tp bl pr rs (n) (dn) (sv) (rk) (tn) (ms) (th)), (fg, aI cI (52200) (G)), (le, aI cI (190) (L1)), (tp, aI cI (1300) (Tp))]) [0, 1, 2, 3] rfl
        have hD := hD.sub (ws' := [(mo, mo_ fg le sg tp bl pr rs (n) (dn) (sv) (rk) (tn) (ms) (th)), (fg, aI cI (52200) (G)), (le, aI cI (190) (L1)), (tp, aI cI (1300) (Tp))]) [0, 1, 2, 3] (by decide) rfl
        exact zr_vret hQ hx hb hr hlk dX11_times_179 hK hP hD hS (by omega) (by omega) (⟨G, L1, Tp, rfl, by have q := hG; rw [hv, hin0, hvs.2.2.2] at q; exact q⟩)
      · exfalso; omega
    | succ t ih =>
      intro i Tp H locs ls hit hgd hgz hv hP hD hS hl
      have ihO := ih
      have inner : ∀ (t : Nat) (j : Nat) (c0 : Int) (Tp : Nat → Int) (H : Heap) (locs : List Loc) (ls : Array Slot), (j + t = k) → (hx_dg Tp (m + k)) → (∀ x : Nat, i + k ≤ x → x < m + k → Tp x = 0) → (0 ≤ c0 ∧ c0 < 65536) → (hx_val Tp (m + k) + c0 * hx_p (i + j) = hx_val (fun i => F (mdA s9 + i)) i * v2 + F (mdA s9 + i) * hx_val (fun i => F (mdA t9 + i)) j * hx_p i) →  va_P D vwCl [(mo, mo_ fg le sg tp bl pr rs (n) (dn) (sv) (rk) (tn) (ms) (th)), (fg, aI cI (52200) (F)), (le, aI cI (190) (Ln)), (tp, aI cI (1300) (Tp))] H → va_D A [(mo, mo_ fg le sg tp bl pr rs (n) (dn) (sv) (rk) (tn) (ms) (th)), (fg, aI cI (52200) (F)), (le, aI cI (190) (Ln)), (tp, aI cI (1300) (Tp))] → va_S A s.heap H locs → lv_has ls 13 [(10, .int (iZ (((j : Nat) : Int)))), (6, .long (lZ (c0))), (8, .long (lZ (F (mdA s9 + i)))), (5, .int (iZ (((i : Nat) : Int)))), (4, .int (iZ (((m + k : Nat) : Int)))), (0, .ref (mo)), (1, .int (iZ (((r9 : Nat) : Int)))), (2, .int (iZ (((s9 : Nat) : Int)))), (3, .int (iZ (((t9 : Nat) : Int))))] → W zp l ze (zRm 3 66) s zm args below meth zc H locs 0 0 Q (F0 zm 74 ls []) := by
        intro t
        induction t with
        | zero =>
          intro j c0 Tp H locs ls hjt hgd hgz hc hv hP hD hS hl
          have hjk : j = k := by omega
          refine lv_iload hx hb dX11_times_74 (lv_at hl 0 rfl) ?_
          refine lv_aload_n hx hb dX11_times_76 rfl (lv_at hl 5 rfl) ?_
          refine va_get (D := D) (ci := 11) (v := .ref (le)) (C := RX11) (T := TX11) (N := 14) hx hb hts hin11 hown hK hP 0 rfl rfl 1 (by decide) q_f_RX11_14_LimbSolverModel_length_I (fun _ h9 => h9) rfl dX11_times_77 ?_
          refine lv_iload_n hx hb dX11_times_80 rfl (lv_at hl 8 rfl) ?_
          refine zr_iald hx hb hK hP 2 0 rfl rfl (t9) (by omega) (by omega) (by omega) dX11_times_81 ?_
          refine zr_eqi ((k : Nat) : Int) hLt ?_
          refine zr_icmp_ge hx hb 149 ⟨by omega, by omega⟩ ⟨by omega, by omega⟩ dX11_times_82 (by decide) (fun h_82 => ?_) (fun h_82 => ?_)
          · refine lv_aload_n hx hb dX11_times_149 rfl (lv_at hl 5 rfl) ?_
            refine va_get (D := D) (ci := 11) (v := .ref (tp)) (C := RX11) (T := TX11) (N := 14) hx hb hts hin11 hown hK hP 0 rfl rfl 3 (by decide) q_f_RX11_20_LimbSolverModel_top_I (fun _ h9 => h9) rfl dX11_times_150 ?_
            refine lv_iload hx hb dX11_times_153 (lv_at hl 3 rfl) ?_
            refine lv_aload_n hx hb dX11_times_155 rfl (lv_at hl 5 rfl) ?_
            refine va_get (D := D) (ci := 11) (v := .ref (le)) (C := RX11) (T := TX11) (N := 14) hx hb hts hin11 hown hK hP 0 rfl rfl 1 (by decide) q_f_RX11_14_LimbSolverModel_length_I (fun _ h9 => h9) rfl dX11_times_156 ?_
            refine lv_iload_n hx hb dX11_times_159 rfl (lv_at hl 8 rfl) ?_
            refine zr_iald hx hb hK hP 2 0 rfl rfl (t9) (by omega) (by omega) (by omega) dX11_times_160 ?_
            refine zr_eqi ((k : Nat) : Int) hLt ?_
            refine zr_iadd hx hb dX11_times_161 ?_
            refine lv_lload hx hb dX11_times_162 (lv_at hl 1 rfl) ?_
            refine zr_l2i hx hb dX11_times_164 ?_
            refine zr_iast hx hb hK hP hD hS 3 0 rfl rfl (i + k) (by omega) (by omega) (by omega) dX11_times_165 (fun H locs hP hD hS => ?_)
            have hP : va_P D vwCl [(mo, mo_ fg le sg tp bl pr rs (n) (dn) (sv) (rk) (tn) (ms) (th)), (fg, aI cI (52200) (F)), (le, aI cI (190) (Ln)), (tp, aI cI (1300) (zu (Tp) (i + k) (c0)))] H := hP
            have hD : va_D A [(mo, mo_ fg le sg tp bl pr rs (n) (dn) (sv) (rk) (tn) (ms) (th)), (fg, aI cI (52200) (F)), (le, aI cI (190) (Ln)), (tp, aI cI (1300) (zu (Tp) (i + k) (c0)))] := hD
            refine lv_iinc (v := iZ (((i + 1 : Nat) : Int))) (lv' := [(5, .int (iZ (((i + 1 : Nat) : Int)))), (10, .int (iZ (((j : Nat) : Int)))), (6, .long (lZ (c0))), (8, .long (lZ (F (mdA s9 + i)))), (4, .int (iZ (((m + k : Nat) : Int)))), (0, .ref (mo)), (1, .int (iZ (((r9 : Nat) : Int)))), (2, .int (iZ (((s9 : Nat) : Int)))), (3, .int (iZ (((t9 : Nat) : Int))))]) hx hb dX11_times_166 hl (k := 3) rfl (by rw [show ((i + 1 : Nat) : Int) = ((i : Nat) : Int) + 1 by omega]; exact iZ_add _ _) (by decide) rfl (fun ls hl => ?_)
            refine lv_goto (tgt := 42) hx hb dX11_times_169 (by decide) ?_
            exact ihO (i + 1) _ H locs ls (by omega) (hx_zu_dg hgd hc) (fun x h1 h2 => by rw [hx_zu_hi (by omega)]; exact hgz x (by omega) h2) (hx_mul_out (d := fun i => F (mdA s9 + i)) (by omega) (hgz _ (Nat.le_refl _) (by omega)) hvt.2.2.2 (hjk ▸ hv)) hP hD hS (lv_sub hl [0, 4, 5, 6, 7, 8] rfl)
          · exfalso; omega
        | succ t ih =>
          intro j c0 Tp H locs ls hjt hgd hgz hc hv hP hD hS hl
          refine lv_iload hx hb dX11_times_74 (lv_at hl 0 rfl) ?_
          refine lv_aload_n hx hb dX11_times_76 rfl (lv_at hl 5 rfl) ?_
          refine va_get (D := D) (ci := 11) (v := .ref (le)) (C := RX11) (T := TX11) (N := 14) hx hb hts hin11 hown hK hP 0 rfl rfl 1 (by decide) q_f_RX11_14_LimbSolverModel_length_I (fun _ h9 => h9) rfl dX11_times_77 ?_
          refine lv_iload_n hx hb dX11_times_80 rfl (lv_at hl 8 rfl) ?_
          refine zr_iald hx hb hK hP 2 0 rfl rfl (t9) (by omega) (by omega) (by omega) dX11_times_81 ?_
          refine zr_eqi ((k : Nat) : Int) hLt ?_
          refine zr_icmp_ge hx hb 149 ⟨by omega, by omega⟩ ⟨by omega, by omega⟩ dX11_times_82 (by decide) (fun h_82 => ?_) (fun h_82 => ?_)
          · exfalso; omega
          · have bf : 0 ≤ F (mdA s9 + i) ∧ F (mdA s9 + i) < 65536 := hvs.2.1 i (by omega)
            have be : 0 ≤ F (mdA t9 + j) ∧ F (mdA t9 + j) < 65536 := hvt.2.1 j (by omega)
            have bm := hx_mul_dg bf be
            have bg := hgd (i + j) (by omega)
            refine lv_lload hx hb dX11_times_85 (lv_at hl 2 rfl) ?_
            refine lv_aload_n hx hb dX11_times_87 rfl (lv_at hl 5 rfl) ?_
            refine va_get (D := D) (ci := 11) (v := .ref (fg)) (C := RX11) (T := TX11) (N := 14) hx hb hts hin11 hown hK hP 0 rfl rfl 0 (by decide) q_f_RX11_8_LimbSolverModel_figure_I (fun _ h9 => h9) rfl dX11_times_88 ?_
            refine lv_iload_n hx hb dX11_times_91 rfl (lv_at hl 8 rfl) ?_
            refine zc_Si (As := [.int (iZ (((t9 : Nat) : Int)))]) (rest := [.ref (fg), .long (lZ (F (mdA s9 + i)))]) (wr := [(mo, mo_ fg le sg tp bl pr rs (n) (dn) (sv) (rk) (tn) (ms) (th)), (fg, aI cI (52200) (F)), (le, aI cI (190) (Ln)), (tp, aI cI (1300) (Tp))]) ⟨hx, hb, hml, hown, hts⟩ (c_at l D cI cJ cE cF cR t9 (by omega)) (va_cwS 1 hts gX11_times_X11_at rfl rfl rfl (by decide +kernel) ⟨Nat.le_of_ble_eq_true rfl, Nat.le_of_ble_eq_true rfl⟩) hN hK hP hD hS hA [] [0, 1, 2, 3] rfl rfl (by decide) (by decide) (by decide) rfl hl.1 (Nat.le_of_ble_eq_true rfl) dX11_times_92 ⟨by decide, by decide⟩ (fun z92 w1 H locs hz92 hp hP hD hS => ?_)
            obtain ⟨hw9, hx0⟩ := hp
            subst hw9
            subst hx0
            have hP := hP.sub (ws' := [(mo, mo_ fg le sg tp bl pr rs (n) (dn) (sv) (rk) (tn) (ms) (th)), (fg, aI cI (52200) (F)), (le, aI cI (190) (Ln)), (tp, aI cI (1300) (Tp))]) [0, 1, 2, 3] rfl
            have hD := hD.sub (ws' := [(mo, mo_ fg le sg tp bl pr rs (n) (dn) (sv) (rk) (tn) (ms) (th)), (fg, aI cI (52200) (F)), (le, aI cI (190) (Ln)), (tp, aI cI (1300) (Tp))]) [0, 1, 2, 3] (by decide) rfl
            refine lv_iload hx hb dX11_times_95 (lv_at hl 0 rfl) ?_
            refine zr_iadd hx hb dX11_times_97 ?_
            refine zr_iald hx hb hK hP 1 0 rfl rfl (mdA t9 + j) (by omega) (by omega) (by omega) dX11_times_98 ?_
            refine zr_i2l hx hb ⟨by omega, by omega⟩ dX11_times_99 ?_
            refine zr_lmul hx hb dX11_times_100 ?_
            refine lv_aload_n hx hb dX11_times_101 rfl (lv_at hl 5 rfl) ?_
            refine va_get (D := D) (ci := 11) (v := .ref (tp)) (C := RX11) (T := TX11) (N := 14) hx hb hts hin11 hown hK hP 0 rfl rfl 3 (by decide) q_f_RX11_20_LimbSolverModel_top_I (fun _ h9 => h9) rfl dX11_times_102 ?_
            refine lv_iload hx hb dX11_times_105 (lv_at hl 3 rfl) ?_
            refine lv_iload hx hb dX11_times_107 (lv_at hl 0 rfl) ?_
            refine zr_iadd hx hb dX11_times_109 ?_
            refine zr_iald hx hb hK hP 3 0 rfl rfl (i + j) (by omega) (by omega) (by omega) dX11_times_110 ?_
            refine zr_i2l hx hb ⟨by omega, by omega⟩ dX11_times_111 ?_
            refine zr_ladd hx hb dX11_times_112 ?_
            refine lv_lload hx hb dX11_times_113 (lv_at hl 1 rfl) ?_
            refine zr_ladd hx hb dX11_times_115 ?_
            refine lv_lstore (lv' := [(11, .long (lZ ((((F (mdA s9 + i)) * ((F) (mdA t9 + j))) + ((Tp) (i + j))) + (c0)))), (10, .int (iZ (((j : Nat) : Int)))), (6, .long (lZ (c0))), (8, .long (lZ (F (mdA s9 + i)))), (5, .int (iZ (((i : Nat) : Int)))), (4, .int (iZ (((m + k : Nat) : Int)))), (0, .ref (mo)), (1, .int (iZ (((r9 : Nat) : Int)))), (2, .int (iZ (((s9 : Nat) : Int)))), (3, .int (iZ (((t9 : Nat) : Int))))]) hx hb dX11_times_116 hl (by decide) rfl (fun ls hl => ?_)
            refine lv_aload_n hx hb dX11_times_118 rfl (lv_at hl 6 rfl) ?_
            refine va_get (D := D) (ci := 11) (v := .ref (tp)) (C := RX11) (T := TX11) (N := 14) hx hb hts hin11 hown hK hP 0 rfl rfl 3 (by decide) q_f_RX11_20_LimbSolverModel_top_I (fun _ h9 => h9) rfl dX11_times_119 ?_
            refine lv_iload hx hb dX11_times_122 (lv_at hl 4 rfl) ?_
            refine lv_iload hx hb dX11_times_124 (lv_at hl 1 rfl) ?_
            refine zr_iadd hx hb dX11_times_126 ?_
            refine lv_lload hx hb dX11_times_127 (lv_at hl 0 rfl) ?_
            refine zr_ldc2 hx hb 65536 (by decide) hown q_constantLong_RX11_47_65536 dX11_times_129 ?_
            refine zr_lrem hx hb ⟨by omega, by omega⟩ ⟨by omega, by omega⟩ (by omega) (by omega) dX11_times_132 ?_
            refine zr_l2i hx hb dX11_times_133 ?_
            refine zr_iast hx hb hK hP hD hS 3 0 rfl rfl (i + j) (by omega) (by omega) (by omega) dX11_times_134 (fun H locs hP hD hS => ?_)
            have hP : va_P D vwCl [(mo, mo_ fg le sg tp bl pr rs (n) (dn) (sv) (rk) (tn) (ms) (th)), (fg, aI cI (52200) (F)), (le, aI cI (190) (Ln)), (tp, aI cI (1300) (zu (Tp) (i + j) (((((F (mdA s9 + i)) * ((F) (mdA t9 + j))) + ((Tp) (i + j))) + (c0)) % (65536))))] H := hP
            have hD : va_D A [(mo, mo_ fg le sg tp bl pr rs (n) (dn) (sv) (rk) (tn) (ms) (th)), (fg, aI cI (52200) (F)), (le, aI cI (190) (Ln)), (tp, aI cI (1300) (zu (Tp) (i + j) (((((F (mdA s9 + i)) * ((F) (mdA t9 + j))) + ((Tp) (i + j))) + (c0)) % (65536))))] := hD
            refine lv_lload hx hb dX11_times_135 (lv_at hl 0 rfl) ?_
            refine zr_ldc2 hx hb 65536 (by decide) hown q_constantLong_RX11_47_65536 dX11_times_137 ?_
            refine zr_ldiv hx hb ⟨by omega, by omega⟩ ⟨by omega, by omega⟩ (by omega) (by omega) dX11_times_140 ?_
            refine lv_lstore (lv' := [(6, .long (lZ (((((F (mdA s9 + i)) * ((F) (mdA t9 + j))) + ((Tp) (i + j))) + (c0)) / (65536)))), (11, .long (lZ ((((F (mdA s9 + i)) * ((F) (mdA t9 + j))) + ((Tp) (i + j))) + (c0)))), (10, .int (iZ (((j : Nat) : Int)))), (8, .long (lZ (F (mdA s9 + i)))), (5, .int (iZ (((i : Nat) : Int)))), (4, .int (iZ (((m + k : Nat) : Int)))), (0, .ref (mo)), (1, .int (iZ (((r9 : Nat) : Int)))), (2, .int (iZ (((s9 : Nat) : Int)))), (3, .int (iZ (((t9 : Nat) : Int))))]) hx hb dX11_times_141 hl (by decide) rfl (fun ls hl => ?_)
            refine lv_iinc (v := iZ (((j + 1 : Nat) : Int))) (lv' := [(10, .int (iZ (((j + 1 : Nat) : Int)))), (6, .long (lZ (((((F (mdA s9 + i)) * ((F) (mdA t9 + j))) + ((Tp) (i + j))) + (c0)) / (65536)))), (11, .long (lZ ((((F (mdA s9 + i)) * ((F) (mdA t9 + j))) + ((Tp) (i + j))) + (c0)))), (8, .long (lZ (F (mdA s9 + i)))), (5, .int (iZ (((i : Nat) : Int)))), (4, .int (iZ (((m + k : Nat) : Int)))), (0, .ref (mo)), (1, .int (iZ (((r9 : Nat) : Int)))), (2, .int (iZ (((s9 : Nat) : Int)))), (3, .int (iZ (((t9 : Nat) : Int))))]) hx hb dX11_times_143 hl (k := 2) rfl (by rw [show ((j + 1 : Nat) : Int) = ((j : Nat) : Int) + 1 by omega]; exact iZ_add _ _) (by decide) rfl (fun ls hl => ?_)
            refine lv_goto (tgt := 74) hx hb dX11_times_146 (by decide) ?_
            exact ih (j + 1) _ _ H locs ls (by omega) (hx_zu_dg hgd (hx_mod _)) (fun x q1 q2 => by rw [hx_zu_hi (by omega)]; exact hgz x q1 q2) ⟨by omega, by omega⟩ (md_mul_step (e := fun i => F (mdA t9 + i)) (by omega) hv) hP hD hS (lv_sub hl [0, 1, 3, 4, 5, 6, 7, 8, 9] rfl)
      refine lv_iload hx hb dX11_times_42 (lv_at hl 0 rfl) ?_
      refine lv_aload_n hx hb dX11_times_44 rfl (lv_at hl 2 rfl) ?_
      refine va_get (D := D) (ci := 11) (v := .ref (le)) (C := RX11) (T := TX11) (N := 14) hx hb hts hin11 hown hK hP 0 rfl rfl 1 (by decide) q_f_RX11_14_LimbSolverModel_length_I (fun _ h9 => h9) rfl dX11_times_45 ?_
      refine lv_iload_n hx hb dX11_times_48 rfl (lv_at hl 4 rfl) ?_
      refine zr_iald hx hb hK hP 2 0 rfl rfl (s9) (by omega) (by omega) (by omega) dX11_times_49 ?_
      refine zr_eqi ((m : Nat) : Int) hLs ?_
      refine zr_icmp_ge hx hb 172 ⟨by omega, by omega⟩ ⟨by omega, by omega⟩ dX11_times_50 (by decide) (fun h_50 => ?_) (fun h_50 => ?_)
      · exfalso; omega
      · have bf : 0 ≤ F (mdA s9 + i) ∧ F (mdA s9 + i) < 65536 := hvs.2.1 i (by omega)
        refine lv_lconst (v := lZ 0) hx hb dX11_times_53 rfl ?_
        refine lv_lstore (lv' := [(6, .long (lZ (0))), (5, .int (iZ (((i : Nat) : Int)))), (4, .int (iZ (((m + k : Nat) : Int)))), (0, .ref (mo)), (1, .int (iZ (((r9 : Nat) : Int)))), (2, .int (iZ (((s9 : Nat) : Int)))), (3, .int (iZ (((t9 : Nat) : Int))))]) hx hb dX11_times_54 hl (by decide) rfl (fun ls hl => ?_)
        refine lv_aload_n hx hb dX11_times_56 rfl (lv_at hl 3 rfl) ?_
        refine va_get (D := D) (ci := 11) (v := .ref (fg)) (C := RX11) (T := TX11) (N := 14) hx hb hts hin11 hown hK hP 0 rfl rfl 0 (by decide) q_f_RX11_8_LimbSolverModel_figure_I (fun _ h9 => h9) rfl dX11_times_57 ?_
        refine lv_iload_n hx hb dX11_times_60 rfl (lv_at hl 5 rfl) ?_
        refine zc_Si (As := [.int (iZ (((s9 : Nat) : Int)))]) (rest := [.ref (fg)]) (wr := [(mo, mo_ fg le sg tp bl pr rs (n) (dn) (sv) (rk) (tn) (ms) (th)), (fg, aI cI (52200) (F)), (le, aI cI (190) (Ln)), (tp, aI cI (1300) (Tp))]) ⟨hx, hb, hml, hown, hts⟩ (c_at l D cI cJ cE cF cR s9 (by omega)) (va_cwS 1 hts gX11_times_X11_at rfl rfl rfl (by decide +kernel) ⟨Nat.le_of_ble_eq_true rfl, Nat.le_of_ble_eq_true rfl⟩) hN hK hP hD hS hA [] [0, 1, 2, 3] rfl rfl (by decide) (by decide) (by decide) rfl hl.1 (Nat.le_of_ble_eq_true rfl) dX11_times_61 ⟨by decide, by decide⟩ (fun z61 w1 H locs hz61 hp hP hD hS => ?_)
        obtain ⟨hw9, hx0⟩ := hp
        subst hw9
        subst hx0
        have hP := hP.sub (ws' := [(mo, mo_ fg le sg tp bl pr rs (n) (dn) (sv) (rk) (tn) (ms) (th)), (fg, aI cI (52200) (F)), (le, aI cI (190) (Ln)), (tp, aI cI (1300) (Tp))]) [0, 1, 2, 3] rfl
        have hD := hD.sub (ws' := [(mo, mo_ fg le sg tp bl pr rs (n) (dn) (sv) (rk) (tn) (ms) (th)), (fg, aI cI (52200) (F)), (le, aI cI (190) (Ln)), (tp, aI cI (1300) (Tp))]) [0, 1, 2, 3] (by decide) rfl
        refine lv_iload hx hb dX11_times_64 (lv_at hl 1 rfl) ?_
        refine zr_iadd hx hb dX11_times_66 ?_
        refine zr_iald hx hb hK hP 1 0 rfl rfl (mdA s9 + i) (by omega) (by omega) (by omega) dX11_times_67 ?_
        refine zr_i2l hx hb ⟨by omega, by omega⟩ dX11_times_68 ?_
        refine lv_lstore (lv' := [(8, .long (lZ ((F) (mdA s9 + i)))), (6, .long (lZ (0))), (5, .int (iZ (((i : Nat) : Int)))), (4, .int (iZ (((m + k : Nat) : Int)))), (0, .ref (mo)), (1, .int (iZ (((r9 : Nat) : Int)))), (2, .int (iZ (((s9 : Nat) : Int)))), (3, .int (iZ (((t9 : Nat) : Int))))]) hx hb dX11_times_69 hl (by decide) rfl (fun ls hl => ?_)
        refine lv_iconst (v := iZ 0) hx hb dX11_times_71 rfl ?_
        refine lv_istore (lv' := [(10, .int (iZ (0))), (8, .long (lZ ((F) (mdA s9 + i)))), (6, .long (lZ (0))), (5, .int (iZ (((i : Nat) : Int)))), (4, .int (iZ (((m + k : Nat) : Int)))), (0, .ref (mo)), (1, .int (iZ (((r9 : Nat) : Int)))), (2, .int (iZ (((s9 : Nat) : Int)))), (3, .int (iZ (((t9 : Nat) : Int))))]) hx hb dX11_times_72 hl (by decide) rfl (fun ls hl => ?_)
        exact inner k 0 0 Tp H locs ls (by omega) hgd hgz ⟨by omega, by omega⟩ (by rw [Int.zero_mul, hx_v0, Int.mul_zero, Int.zero_mul, hv]) hP hD hS (lv_sub hl [0, 2, 1, 3, 4, 5, 6, 7, 8] rfl)
  have zl : ∀ (t : Nat) (i : Nat) (Tp : Nat → Int) (H : Heap) (locs : List Loc) (ls : Array Slot), (i + t = m + k) → (∀ x : Nat, x < i → Tp x = 0) →  va_P D vwCl [(mo, mo_ fg le sg tp bl pr rs (n) (dn) (sv) (rk) (tn) (ms) (th)), (fg, aI cI (52200) (F)), (le, aI cI (190) (Ln)), (tp, aI cI (1300) (Tp))] H → va_D A [(mo, mo_ fg le sg tp bl pr rs (n) (dn) (sv) (rk) (tn) (ms) (th)), (fg, aI cI (52200) (F)), (le, aI cI (190) (Ln)), (tp, aI cI (1300) (Tp))] → va_S A s.heap H locs → lv_has ls 13 [(5, .int (iZ (((i : Nat) : Int)))), (4, .int (iZ (((m + k : Nat) : Int)))), (0, .ref (mo)), (1, .int (iZ (((r9 : Nat) : Int)))), (2, .int (iZ (((s9 : Nat) : Int)))), (3, .int (iZ (((t9 : Nat) : Int))))] → W zp l ze (zRm 3 66) s zm args below meth zc H locs 0 0 Q (F0 zm 18 ls []) := by
    intro t
    induction t with
    | zero =>
      intro i Tp H locs ls hit hgz hP hD hS hl
      refine lv_iload hx hb dX11_times_18 (lv_at hl 0 rfl) ?_
      refine lv_iload hx hb dX11_times_20 (lv_at hl 1 rfl) ?_
      refine zr_icmp_ge hx hb 39 ⟨by omega, by omega⟩ ⟨by omega, by omega⟩ dX11_times_22 (by decide) (fun h_22 => ?_) (fun h_22 => ?_)
      · refine lv_iconst (v := iZ 0) hx hb dX11_times_39 rfl ?_
        refine lv_istore (lv' := [(5, .int (iZ (0))), (4, .int (iZ (((m + k : Nat) : Int)))), (0, .ref (mo)), (1, .int (iZ (((r9 : Nat) : Int)))), (2, .int (iZ (((s9 : Nat) : Int)))), (3, .int (iZ (((t9 : Nat) : Int))))]) hx hb dX11_times_40 hl (by decide) rfl (fun ls hl => ?_)
        exact outer m 0 Tp H locs ls (by omega) (fun x hx => by rw [hgz x (by omega)]; exact ⟨by omega, by omega⟩) (fun x _ hx => hgz x (by omega)) (by rw [hx_val0 (fun x hx => hgz x (by omega)), hx_v0, Int.zero_mul]) hP hD hS (lv_sub hl [0, 1, 2, 3, 4, 5] rfl)
      · exfalso; omega
    | succ t ih =>
      intro i Tp H locs ls hit hgz hP hD hS hl
      refine lv_iload hx hb dX11_times_18 (lv_at hl 0 rfl) ?_
      refine lv_iload hx hb dX11_times_20 (lv_at hl 1 rfl) ?_
      refine zr_icmp_ge hx hb 39 ⟨by omega, by omega⟩ ⟨by omega, by omega⟩ dX11_times_22 (by decide) (fun h_22 => ?_) (fun h_22 => ?_)
      · exfalso; omega
      · refine lv_aload_n hx hb dX11_times_25 rfl (lv_at hl 2 rfl) ?_
        refine va_get (D := D) (ci := 11) (v := .ref (tp)) (C := RX11) (T := TX11) (N := 14) hx hb hts hin11 hown hK hP 0 rfl rfl 3 (by decide) q_f_RX11_20_LimbSolverModel_top_I (fun _ h9 => h9) rfl dX11_times_26 ?_
        refine lv_iload hx hb dX11_times_29 (lv_at hl 0 rfl) ?_
        refine lv_iconst (v := iZ 0) hx hb dX11_times_31 rfl ?_
        refine zr_iast hx hb hK hP hD hS 3 0 rfl rfl (i) (by omega) (by omega) (by omega) dX11_times_32 (fun H locs hP hD hS => ?_)
        have hP : va_P D vwCl [(mo, mo_ fg le sg tp bl pr rs (n) (dn) (sv) (rk) (tn) (ms) (th)), (fg, aI cI (52200) (F)), (le, aI cI (190) (Ln)), (tp, aI cI (1300) (zu (Tp) (i) (0)))] H := hP
        have hD : va_D A [(mo, mo_ fg le sg tp bl pr rs (n) (dn) (sv) (rk) (tn) (ms) (th)), (fg, aI cI (52200) (F)), (le, aI cI (190) (Ln)), (tp, aI cI (1300) (zu (Tp) (i) (0)))] := hD
        refine lv_iinc (v := iZ (((i + 1 : Nat) : Int))) (lv' := [(5, .int (iZ (((i + 1 : Nat) : Int)))), (4, .int (iZ (((m + k : Nat) : Int)))), (0, .ref (mo)), (1, .int (iZ (((r9 : Nat) : Int)))), (2, .int (iZ (((s9 : Nat) : Int)))), (3, .int (iZ (((t9 : Nat) : Int))))]) hx hb dX11_times_33 hl (k := 0) rfl (by rw [show ((i + 1 : Nat) : Int) = ((i : Nat) : Int) + 1 by omega]; exact iZ_add _ _) (by decide) rfl (fun ls hl => ?_)
        refine lv_goto (tgt := 18) hx hb dX11_times_36 (by decide) ?_
        exact ih (i + 1) _ H locs ls (by omega) (fun x hx => by by_cases q : x = i; (subst q; exact zu_s Tp x 0); (rw [zu_n Tp 0 q]; exact hgz x (by omega))) hP hD hS (lv_sub hl [0, 1, 2, 3, 4, 5] rfl)
  refine lv_aload_n hx hb dX11_times_0 rfl (lv_at hl 0 rfl) ?_
  refine va_get (D := D) (ci := 11) (v := .ref (le)) (C := RX11) (T := TX11) (N := 14) hx hb hts hin11 hown hK hP 0 rfl rfl 1 (by decide) q_f_RX11_14_LimbSolverModel_length_I (fun _ h9 => h9) rfl dX11_times_1 ?_
  refine lv_iload_n hx hb dX11_times_4 rfl (lv_at hl 2 rfl) ?_
  refine zr_iald hx hb hK hP 2 0 rfl rfl (s9) (by omega) (by omega) (by omega) dX11_times_5 ?_
  refine zr_eqi ((m : Nat) : Int) hLs ?_
  refine lv_aload_n hx hb dX11_times_6 rfl (lv_at hl 0 rfl) ?_
  refine va_get (D := D) (ci := 11) (v := .ref (le)) (C := RX11) (T := TX11) (N := 14) hx hb hts hin11 hown hK hP 0 rfl rfl 1 (by decide) q_f_RX11_14_LimbSolverModel_length_I (fun _ h9 => h9) rfl dX11_times_7 ?_
  refine lv_iload_n hx hb dX11_times_10 rfl (lv_at hl 3 rfl) ?_
  refine zr_iald hx hb hK hP 2 0 rfl rfl (t9) (by omega) (by omega) (by omega) dX11_times_11 ?_
  refine zr_eqi ((k : Nat) : Int) hLt ?_
  refine zr_iadd hx hb dX11_times_12 ?_
  refine zr_eqi (((m + k : Nat) : Int)) (by omega) ?_
  refine lv_istore (lv' := [(4, .int (iZ (((m + k : Nat) : Int)))), (0, .ref (mo)), (1, .int (iZ (((r9 : Nat) : Int)))), (2, .int (iZ (((s9 : Nat) : Int)))), (3, .int (iZ (((t9 : Nat) : Int))))]) hx hb dX11_times_13 hl (by decide) rfl (fun ls hl => ?_)
  refine lv_iconst (v := iZ 0) hx hb dX11_times_15 rfl ?_
  refine lv_istore (lv' := [(5, .int (iZ (0))), (4, .int (iZ (((m + k : Nat) : Int)))), (0, .ref (mo)), (1, .int (iZ (((r9 : Nat) : Int)))), (2, .int (iZ (((s9 : Nat) : Int)))), (3, .int (iZ (((t9 : Nat) : Int))))]) hx hb dX11_times_16 hl (by decide) rfl (fun ls hl => ?_)
  exact zl (m + k) 0 T0 s.heap [] ls (by omega) (fun x hx => absurd hx (Nat.not_lt_zero x)) hP hD hS (lv_sub hl [0, 1, 2, 3, 4, 5] rfl)

set_option maxHeartbeats 4000000 in
set_option maxRecDepth 100000 in
/-- Model.put -/
theorem c_mput (l : Launch) (D : va_G) (cI cJ cE cF cR : ClassId) (mo fg le sg tp bl pr rs : Nat) (n dn sv rk tn ms th : Int) (r9 : Nat) (F Ln : Nat → Int) (z : Int) (hr9 : r9 < 188) (hz : 0 ≤ z ∧ z < 9223372036854775808) : Cv l D (zty cI cJ cE cF cR) yX11_put wsX11_put (zRm 1 20) 0 0 [.ref (mo), .int (iZ (((r9 : Nat) : Int))), .long (lZ (z))] [(mo, mo_ fg le sg tp bl pr rs (n) (dn) (sv) (rk) (tn) (ms) (th)), (fg, aI cI (52200) (F)), (le, aI cI (190) (Ln))] (fun w1 => ∃ (G L1 : Nat → Int), w1 = [(mo, mo_ fg le sg tp bl pr rs (n) (dn) (sv) (rk) (tn) (ms) (th)), (fg, aI cI (52200) (G)), (le, aI cI (190) (L1))] ∧ md_w F Ln G L1 r9 z) := by
  unfold Cv
  refine zs (Qc := zQv D _ _) (cc := cX11_put) (maxL := 7) (ret := none) (by decide) rfl (Nat.le_of_ble_eq_true rfl) ?_
  intro zp ze s zm below meth zc ls A args Q hQ hx hb hr hts hown hlk hml hnm hN hA hK hP hD hS hl
  have q_f_RX11_14_LimbSolverModel_length_I := hts (.fieldLink RX11 14 "LimbSolverModel" "length" "[I") (by decide +kernel)
  have hin11 : ∀ w ∈ wsX110, w ∈ wsX11_put := by decide +kernel
  have q_f_RX11_8_LimbSolverModel_figure_I := hts (.fieldLink RX11 8 "LimbSolverModel" "figure" "[I") (by decide +kernel)
  have q_constantLong_RX11_47_65536 := hts (.constantLong RX11 47 (65536)) (by decide +kernel)
  have hl : lv_has ls 7 [(0, .ref (mo)), (1, .int (iZ (((r9 : Nat) : Int)))), (2, .long (lZ (z)))] := hl
  have hfc := mdC_b r9
  have hAr := mdA_b hr9
  have lp : ∀ (t : Nat) (i : Nat) (r : Int) (G : Nat → Int) (H : Heap) (locs : List Loc) (ls : Array Slot), (r < hx_p t) → (i + t ≤ 180) → (md_off F G r9) → (hx_dg (fun i => G (mdA r9 + i)) i) → (0 ≤ r ∧ r ≤ z) → (r = 0 → hx_can (fun i => G (mdA r9 + i)) i) → (hx_val (fun i => G (mdA r9 + i)) i + r * hx_p i = z) →  va_P D vwCl [(mo, mo_ fg le sg tp bl pr rs (n) (dn) (sv) (rk) (tn) (ms) (th)), (fg, aI cI (52200) (G)), (le, aI cI (190) (Ln))] H → va_D A [(mo, mo_ fg le sg tp bl pr rs (n) (dn) (sv) (rk) (tn) (ms) (th)), (fg, aI cI (52200) (G)), (le, aI cI (190) (Ln))] → va_S A s.heap H locs → lv_has ls 7 [(6, .int (iZ (((i : Nat) : Int)))), (4, .long (lZ (r))), (0, .ref (mo)), (1, .int (iZ (((r9 : Nat) : Int)))), (2, .long (lZ (z)))] → W zp l ze (zRm 1 20) s zm args below meth zc H locs 0 0 Q (F0 zm 6 ls []) := by
    intro t
    induction t with
    | zero =>
      intro i r G H locs ls ht hi4 hoff hgd hr0 hcn hv hP hD hS hl
      refine lv_lload hx hb dX11_put_6 (lv_at hl 1 rfl) ?_
      refine lv_lconst (v := lZ 0) hx hb dX11_put_8 rfl ?_
      refine zr_lcmp_le hx hb 46 ⟨by omega, by omega⟩ ⟨by omega, by omega⟩ dX11_put_9 dX11_put_10 (by decide) (fun h_9 => ?_) (fun h_9 => ?_)
      · refine lv_aload_n hx hb dX11_put_46 rfl (lv_at hl 2 rfl) ?_
        refine va_get (D := D) (ci := 11) (v := .ref (le)) (C := RX11) (T := TX11) (N := 14) hx hb hts hin11 hown hK hP 0 rfl rfl 1 (by decide) q_f_RX11_14_LimbSolverModel_length_I (fun _ h9 => h9) rfl dX11_put_47 ?_
        refine lv_iload_n hx hb dX11_put_50 rfl (lv_at hl 3 rfl) ?_
        refine lv_iload hx hb dX11_put_51 (lv_at hl 0 rfl) ?_
        refine zr_iast hx hb hK hP hD hS 2 0 rfl rfl (r9) (by omega) (by omega) (by omega) dX11_put_53 (fun H locs hP hD hS => ?_)
        have hP : va_P D vwCl [(mo, mo_ fg le sg tp bl pr rs (n) (dn) (sv) (rk) (tn) (ms) (th)), (fg, aI cI (52200) (G)), (le, aI cI (190) (zu (Ln) (r9) (((i : Nat) : Int))))] H := hP
        have hD : va_D A [(mo, mo_ fg le sg tp bl pr rs (n) (dn) (sv) (rk) (tn) (ms) (th)), (fg, aI cI (52200) (G)), (le, aI cI (190) (zu (Ln) (r9) (((i : Nat) : Int))))] := hD
        exact zr_vret hQ hx hb hr hlk dX11_put_54 hK hP hD hS (by omega) (by omega) (⟨G, _, rfl, fun s _ hs => hoff.e hs, _, zu_s _ _ _, hx_as_end (by omega) hgd (by rw [hx_p0] at ht; omega) hcn hv⟩)
      · exfalso; rw [hx_p0] at ht; omega
    | succ t ih =>
      intro i r G H locs ls ht hi4 hoff hgd hr0 hcn hv hP hD hS hl
      refine lv_lload hx hb dX11_put_6 (lv_at hl 1 rfl) ?_
      refine lv_lconst (v := lZ 0) hx hb dX11_put_8 rfl ?_
      refine zr_lcmp_le hx hb 46 ⟨by omega, by omega⟩ ⟨by omega, by omega⟩ dX11_put_9 dX11_put_10 (by decide) (fun h_9 => ?_) (fun h_9 => ?_)
      · refine lv_aload_n hx hb dX11_put_46 rfl (lv_at hl 2 rfl) ?_
        refine va_get (D := D) (ci := 11) (v := .ref (le)) (C := RX11) (T := TX11) (N := 14) hx hb hts hin11 hown hK hP 0 rfl rfl 1 (by decide) q_f_RX11_14_LimbSolverModel_length_I (fun _ h9 => h9) rfl dX11_put_47 ?_
        refine lv_iload_n hx hb dX11_put_50 rfl (lv_at hl 3 rfl) ?_
        refine lv_iload hx hb dX11_put_51 (lv_at hl 0 rfl) ?_
        refine zr_iast hx hb hK hP hD hS 2 0 rfl rfl (r9) (by omega) (by omega) (by omega) dX11_put_53 (fun H locs hP hD hS => ?_)
        have hP : va_P D vwCl [(mo, mo_ fg le sg tp bl pr rs (n) (dn) (sv) (rk) (tn) (ms) (th)), (fg, aI cI (52200) (G)), (le, aI cI (190) (zu (Ln) (r9) (((i : Nat) : Int))))] H := hP
        have hD : va_D A [(mo, mo_ fg le sg tp bl pr rs (n) (dn) (sv) (rk) (tn) (ms) (th)), (fg, aI cI (52200) (G)), (le, aI cI (190) (zu (Ln) (r9) (((i : Nat) : Int))))] := hD
        exact zr_vret hQ hx hb hr hlk dX11_put_54 hK hP hD hS (by omega) (by omega) (⟨G, _, rfl, fun s _ hs => hoff.e hs, _, zu_s _ _ _, hx_as_end (by omega) hgd (by omega) hcn hv⟩)
      · refine lv_aload_n hx hb dX11_put_13 rfl (lv_at hl 2 rfl) ?_
        refine va_get (D := D) (ci := 11) (v := .ref (fg)) (C := RX11) (T := TX11) (N := 14) hx hb hts hin11 hown hK hP 0 rfl rfl 0 (by decide) q_f_RX11_8_LimbSolverModel_figure_I (fun _ h9 => h9) rfl dX11_put_14 ?_
        refine lv_iload_n hx hb dX11_put_17 rfl (lv_at hl 3 rfl) ?_
        refine zc_Si (As := [.int (iZ (((r9 : Nat) : Int)))]) (rest := [.ref (fg)]) (wr := [(mo, mo_ fg le sg tp bl pr rs (n) (dn) (sv) (rk) (tn) (ms) (th)), (fg, aI cI (52200) (G)), (le, aI cI (190) (Ln))]) ⟨hx, hb, hml, hown, hts⟩ (c_at l D cI cJ cE cF cR r9 (by omega)) (va_cwS 1 hts gX11_put_X11_at rfl rfl rfl (by decide +kernel) ⟨Nat.le_of_ble_eq_true rfl, Nat.le_of_ble_eq_true rfl⟩) hN hK hP hD hS hA [] [0, 1, 2] rfl rfl (by decide) (by decide) (by decide) rfl hl.1 (Nat.le_of_ble_eq_true rfl) dX11_put_18 ⟨by decide, by decide⟩ (fun z18 w1 H locs hz18 hp hP hD hS => ?_)
        obtain ⟨hw9, hx0⟩ := hp
        subst hw9
        subst hx0
        have hP := hP.sub (ws' := [(mo, mo_ fg le sg tp bl pr rs (n) (dn) (sv) (rk) (tn) (ms) (th)), (fg, aI cI (52200) (G)), (le, aI cI (190) (Ln))]) [0, 1, 2] rfl
        have hD := hD.sub (ws' := [(mo, mo_ fg le sg tp bl pr rs (n) (dn) (sv) (rk) (tn) (ms) (th)), (fg, aI cI (52200) (G)), (le, aI cI (190) (Ln))]) [0, 1, 2] (by decide) rfl
        refine lv_iload hx hb dX11_put_21 (lv_at hl 0 rfl) ?_
        refine zr_iadd hx hb dX11_put_23 ?_
        refine lv_lload hx hb dX11_put_24 (lv_at hl 1 rfl) ?_
        refine zr_ldc2 hx hb 65536 (by decide) hown q_constantLong_RX11_47_65536 dX11_put_26 ?_
        refine zr_lrem hx hb ⟨by omega, by omega⟩ ⟨by omega, by omega⟩ (by omega) (by omega) dX11_put_29 ?_
        refine zr_l2i hx hb dX11_put_30 ?_
        refine zr_iast hx hb hK hP hD hS 1 0 rfl rfl (mdA r9 + i) (by omega) (by omega) (by omega) dX11_put_31 (fun H locs hP hD hS => ?_)
        have hP : va_P D vwCl [(mo, mo_ fg le sg tp bl pr rs (n) (dn) (sv) (rk) (tn) (ms) (th)), (fg, aI cI (52200) (zu (G) (mdA r9 + i) ((r) % (65536)))), (le, aI cI (190) (Ln))] H := hP
        have hD : va_D A [(mo, mo_ fg le sg tp bl pr rs (n) (dn) (sv) (rk) (tn) (ms) (th)), (fg, aI cI (52200) (zu (G) (mdA r9 + i) ((r) % (65536)))), (le, aI cI (190) (Ln))] := hD
        refine lv_lload hx hb dX11_put_32 (lv_at hl 1 rfl) ?_
        refine zr_ldc2 hx hb 65536 (by decide) hown q_constantLong_RX11_47_65536 dX11_put_34 ?_
        refine zr_ldiv hx hb ⟨by omega, by omega⟩ ⟨by omega, by omega⟩ (by omega) (by omega) dX11_put_37 ?_
        refine lv_lstore (lv' := [(4, .long (lZ ((r) / (65536)))), (6, .int (iZ (((i : Nat) : Int)))), (0, .ref (mo)), (1, .int (iZ (((r9 : Nat) : Int)))), (2, .long (lZ (z)))]) hx hb dX11_put_38 hl (by decide) rfl (fun ls hl => ?_)
        refine lv_iinc (v := iZ (((i + 1 : Nat) : Int))) (lv' := [(6, .int (iZ (((i + 1 : Nat) : Int)))), (4, .long (lZ ((r) / (65536)))), (0, .ref (mo)), (1, .int (iZ (((r9 : Nat) : Int)))), (2, .long (lZ (z)))]) hx hb dX11_put_40 hl (k := 1) rfl (by rw [show ((i + 1 : Nat) : Int) = ((i : Nat) : Int) + 1 by omega]; exact iZ_add _ _) (by decide) rfl (fun ls hl => ?_)
        refine lv_goto (tgt := 6) hx hb dX11_put_43 (by decide) ?_
        exact ih (i + 1) (r / 65536) _ H locs ls (by rw [hx_ps] at ht; omega) (by omega) (md_off_zu hoff (by omega)) (by rw [hx_zu_shift]; exact hx_zu_dgs hgd (hx_mod _)) ⟨by omega, by omega⟩ (fun q _ => by dsimp only; rw [Nat.add_sub_cancel, zu_s]; omega) (by rw [hx_zu_shift]; exact hx_as_step hv) hP hD hS (lv_sub hl [0, 1, 2, 3, 4] rfl)
  refine lv_lload_n hx hb dX11_put_0 rfl (lv_at hl 2 rfl) ?_
  refine lv_lstore (lv' := [(4, .long (lZ (z))), (0, .ref (mo)), (1, .int (iZ (((r9 : Nat) : Int)))), (2, .long (lZ (z)))]) hx hb dX11_put_1 hl (by decide) rfl (fun ls hl => ?_)
  refine lv_iconst (v := iZ 0) hx hb dX11_put_3 rfl ?_
  refine lv_istore (lv' := [(6, .int (iZ (0))), (4, .long (lZ (z))), (0, .ref (mo)), (1, .int (iZ (((r9 : Nat) : Int)))), (2, .long (lZ (z)))]) hx hb dX11_put_4 hl (by decide) rfl (fun ls hl => ?_)
  exact lp 4 0 z F s.heap [] ls (by rw [hx_p4]; omega) (by omega) (md_off_refl F r9) (fun i hi => absurd hi (Nat.not_lt_zero i)) ⟨by omega, by omega⟩ (fun _ q => absurd q (Nat.lt_irrefl 0)) (by rw [hx_v0, hx_p0]; omega) hP hD hS (lv_sub hl [0, 1, 2, 3, 4] rfl)

set_option maxHeartbeats 4000000 in
set_option maxRecDepth 100000 in
/-- Model.copy -/
theorem c_mcopy (l : Launch) (D : va_G) (cI cJ cE cF cR : ClassId) (mo fg le sg tp bl pr rs : Nat) (n dn sv rk tn ms th : Int) (r9 s9 a9 : Nat) (F Ln : Nat → Int) (v1 : Int) (hr9 : r9 < 188) (hs9 : s9 < 188) (hrs : s9 ≠ r9) (hn1 : md_n F Ln s9 v1) (hb1 : v1 < hx_p a9) (hfa : a9 ≤ mdC r9) : Cv l D (zty cI cJ cE cF cR) yX11_copy wsX11_copy (zRm 1 20) 0 0 [.ref (mo), .int (iZ (((r9 : Nat) : Int))), .int (iZ (((s9 : Nat) : Int)))] [(mo, mo_ fg le sg tp bl pr rs (n) (dn) (sv) (rk) (tn) (ms) (th)), (fg, aI cI (52200) (F)), (le, aI cI (190) (Ln))] (fun w1 => ∃ (G L1 : Nat → Int), w1 = [(mo, mo_ fg le sg tp bl pr rs (n) (dn) (sv) (rk) (tn) (ms) (th)), (fg, aI cI (52200) (G)), (le, aI cI (190) (L1))] ∧ md_w F Ln G L1 r9 v1) := by
  unfold Cv
  refine zs (Qc := zQv D _ _) (cc := cX11_copy) (maxL := 4) (ret := none) (by decide) rfl (Nat.le_of_ble_eq_true rfl) ?_
  intro zp ze s zm below meth zc ls A args Q hQ hx hb hr hts hown hlk hml hnm hN hA hK hP hD hS hl
  have q_f_RX11_14_LimbSolverModel_length_I := hts (.fieldLink RX11 14 "LimbSolverModel" "length" "[I") (by decide +kernel)
  have hin11 : ∀ w ∈ wsX110, w ∈ wsX11_copy := by decide +kernel
  have q_f_RX11_8_LimbSolverModel_figure_I := hts (.fieldLink RX11 8 "LimbSolverModel" "figure" "[I") (by decide +kernel)
  have hl : lv_has ls 4 [(0, .ref (mo)), (1, .int (iZ (((r9 : Nat) : Int)))), (2, .int (iZ (((s9 : Nat) : Int))))] := hl
  obtain ⟨m, hLs, hvs⟩ := hn1
  have hm9 := hvs.1
  have hcs := mdC_b s9
  have hfc := mdC_b r9
  have hAr := mdA_b hr9
  have hAs := mdA_b hs9
  have hma : m ≤ a9 := hx_ok_cnt hvs hb1
  have hfit : m ≤ mdC r9 := by omega
  have lp : ∀ (t : Nat) (i : Nat) (G : Nat → Int) (H : Heap) (locs : List Loc) (ls : Array Slot), (i + t = m) → (md_off F G r9) → (∀ j : Nat, j < i → G (mdA r9 + j) = F (mdA s9 + j)) →  va_P D vwCl [(mo, mo_ fg le sg tp bl pr rs (n) (dn) (sv) (rk) (tn) (ms) (th)), (fg, aI cI (52200) (G)), (le, aI cI (190) (Ln))] H → va_D A [(mo, mo_ fg le sg tp bl pr rs (n) (dn) (sv) (rk) (tn) (ms) (th)), (fg, aI cI (52200) (G)), (le, aI cI (190) (Ln))] → va_S A s.heap H locs → lv_has ls 4 [(3, .int (iZ (((i : Nat) : Int)))), (0, .ref (mo)), (1, .int (iZ (((r9 : Nat) : Int)))), (2, .int (iZ (((s9 : Nat) : Int))))] → W zp l ze (zRm 1 20) s zm args below meth zc H locs 0 0 Q (F0 zm 2 ls []) := by
    intro t
    induction t with
    | zero =>
      intro i G H locs ls hit hoff hcp hP hD hS hl
      refine lv_iload_n hx hb dX11_copy_2 rfl (lv_at hl 0 rfl) ?_
      refine lv_aload_n hx hb dX11_copy_3 rfl (lv_at hl 1 rfl) ?_
      refine va_get (D := D) (ci := 11) (v := .ref (le)) (C := RX11) (T := TX11) (N := 14) hx hb hts hin11 hown hK hP 0 rfl rfl 1 (by decide) q_f_RX11_14_LimbSolverModel_length_I (fun _ h9 => h9) rfl dX11_copy_4 ?_
      refine lv_iload_n hx hb dX11_copy_7 rfl (lv_at hl 3 rfl) ?_
      refine zr_iald hx hb hK hP 2 0 rfl rfl (s9) (by omega) (by omega) (by omega) dX11_copy_8 ?_
      refine zr_eqi ((m : Nat) : Int) hLs ?_
      refine zr_icmp_ge hx hb 40 ⟨by omega, by omega⟩ ⟨by omega, by omega⟩ dX11_copy_9 (by decide) (fun h_9 => ?_) (fun h_9 => ?_)
      · refine lv_aload_n hx hb dX11_copy_40 rfl (lv_at hl 1 rfl) ?_
        refine va_get (D := D) (ci := 11) (v := .ref (le)) (C := RX11) (T := TX11) (N := 14) hx hb hts hin11 hown hK hP 0 rfl rfl 1 (by decide) q_f_RX11_14_LimbSolverModel_length_I (fun _ h9 => h9) rfl dX11_copy_41 ?_
        refine lv_iload_n hx hb dX11_copy_44 rfl (lv_at hl 2 rfl) ?_
        refine lv_aload_n hx hb dX11_copy_45 rfl (lv_at hl 1 rfl) ?_
        refine va_get (D := D) (ci := 11) (v := .ref (le)) (C := RX11) (T := TX11) (N := 14) hx hb hts hin11 hown hK hP 0 rfl rfl 1 (by decide) q_f_RX11_14_LimbSolverModel_length_I (fun _ h9 => h9) rfl dX11_copy_46 ?_
        refine lv_iload_n hx hb dX11_copy_49 rfl (lv_at hl 3 rfl) ?_
        refine zr_iald hx hb hK hP 2 0 rfl rfl (s9) (by omega) (by omega) (by omega) dX11_copy_50 ?_
        refine zr_eqi ((m : Nat) : Int) hLs ?_
        refine zr_iast hx hb hK hP hD hS 2 0 rfl rfl (r9) (by omega) (by omega) (by omega) dX11_copy_51 (fun H locs hP hD hS => ?_)
        have hP : va_P D vwCl [(mo, mo_ fg le sg tp bl pr rs (n) (dn) (sv) (rk) (tn) (ms) (th)), (fg, aI cI (52200) (G)), (le, aI cI (190) (zu (Ln) (r9) (((m : Nat) : Int))))] H := hP
        have hD : va_D A [(mo, mo_ fg le sg tp bl pr rs (n) (dn) (sv) (rk) (tn) (ms) (th)), (fg, aI cI (52200) (G)), (le, aI cI (190) (zu (Ln) (r9) (((m : Nat) : Int))))] := hD
        exact zr_vret hQ hx hb hr hlk dX11_copy_52 hK hP hD hS (by omega) (by omega) (⟨G, _, rfl, fun s _ hs => hoff.e hs, m, zu_s _ _ _, md_cp hvs hfit (fun j hj => hcp j (by omega))⟩)
      · exfalso; omega
    | succ t ih =>
      intro i G H locs ls hit hoff hcp hP hD hS hl
      refine lv_iload_n hx hb dX11_copy_2 rfl (lv_at hl 0 rfl) ?_
      refine lv_aload_n hx hb dX11_copy_3 rfl (lv_at hl 1 rfl) ?_
      refine va_get (D := D) (ci := 11) (v := .ref (le)) (C := RX11) (T := TX11) (N := 14) hx hb hts hin11 hown hK hP 0 rfl rfl 1 (by decide) q_f_RX11_14_LimbSolverModel_length_I (fun _ h9 => h9) rfl dX11_copy_4 ?_
      refine lv_iload_n hx hb dX11_copy_7 rfl (lv_at hl 3 rfl) ?_
      refine zr_iald hx hb hK hP 2 0 rfl rfl (s9) (by omega) (by omega) (by omega) dX11_copy_8 ?_
      refine zr_eqi ((m : Nat) : Int) hLs ?_
      refine zr_icmp_ge hx hb 40 ⟨by omega, by omega⟩ ⟨by omega, by omega⟩ dX11_copy_9 (by decide) (fun h_9 => ?_) (fun h_9 => ?_)
      · exfalso; omega
      · refine lv_aload_n hx hb dX11_copy_12 rfl (lv_at hl 1 rfl) ?_
        refine va_get (D := D) (ci := 11) (v := .ref (fg)) (C := RX11) (T := TX11) (N := 14) hx hb hts hin11 hown hK hP 0 rfl rfl 0 (by decide) q_f_RX11_8_LimbSolverModel_figure_I (fun _ h9 => h9) rfl dX11_copy_13 ?_
        refine lv_iload_n hx hb dX11_copy_16 rfl (lv_at hl 2 rfl) ?_
        refine zc_Si (As := [.int (iZ (((r9 : Nat) : Int)))]) (rest := [.ref (fg)]) (wr := [(mo, mo_ fg le sg tp bl pr rs (n) (dn) (sv) (rk) (tn) (ms) (th)), (fg, aI cI (52200) (G)), (le, aI cI (190) (Ln))]) ⟨hx, hb, hml, hown, hts⟩ (c_at l D cI cJ cE cF cR r9 (by omega)) (va_cwS 1 hts gX11_copy_X11_at rfl rfl rfl (by decide +kernel) ⟨Nat.le_of_ble_eq_true rfl, Nat.le_of_ble_eq_true rfl⟩) hN hK hP hD hS hA [] [0, 1, 2] rfl rfl (by decide) (by decide) (by decide) rfl hl.1 (Nat.le_of_ble_eq_true rfl) dX11_copy_17 ⟨by decide, by decide⟩ (fun z17 w1 H locs hz17 hp hP hD hS => ?_)
        obtain ⟨hw9, hx0⟩ := hp
        subst hw9
        subst hx0
        have hP := hP.sub (ws' := [(mo, mo_ fg le sg tp bl pr rs (n) (dn) (sv) (rk) (tn) (ms) (th)), (fg, aI cI (52200) (G)), (le, aI cI (190) (Ln))]) [0, 1, 2] rfl
        have hD := hD.sub (ws' := [(mo, mo_ fg le sg tp bl pr rs (n) (dn) (sv) (rk) (tn) (ms) (th)), (fg, aI cI (52200) (G)), (le, aI cI (190) (Ln))]) [0, 1, 2] (by decide) rfl
        refine lv_iload_n hx hb dX11_copy_20 rfl (lv_at hl 0 rfl) ?_
        refine zr_iadd hx hb dX11_copy_21 ?_
        refine lv_aload_n hx hb dX11_copy_22 rfl (lv_at hl 1 rfl) ?_
        refine va_get (D := D) (ci := 11) (v := .ref (fg)) (C := RX11) (T := TX11) (N := 14) hx hb hts hin11 hown hK hP 0 rfl rfl 0 (by decide) q_f_RX11_8_LimbSolverModel_figure_I (fun _ h9 => h9) rfl dX11_copy_23 ?_
        refine lv_iload_n hx hb dX11_copy_26 rfl (lv_at hl 3 rfl) ?_
        refine zc_Si (As := [.int (iZ (((s9 : Nat) : Int)))]) (rest := [.ref (fg), .int (iZ ((((mdA r9 : Nat) : Int)) + (((i : Nat) : Int)))), .ref (fg)]) (wr := [(mo, mo_ fg le sg tp bl pr rs (n) (dn) (sv) (rk) (tn) (ms) (th)), (fg, aI cI (52200) (G)), (le, aI cI (190) (Ln))]) ⟨hx, hb, hml, hown, hts⟩ (c_at l D cI cJ cE cF cR s9 (by omega)) (va_cwS 1 hts gX11_copy_X11_at rfl rfl rfl (by decide +kernel) ⟨Nat.le_of_ble_eq_true rfl, Nat.le_of_ble_eq_true rfl⟩) hN hK hP hD hS hA [] [0, 1, 2] rfl rfl (by decide) (by decide) (by decide) rfl hl.1 (Nat.le_of_ble_eq_true rfl) dX11_copy_27 ⟨by decide, by decide⟩ (fun z27 w1 H locs hz27 hp hP hD hS => ?_)
        obtain ⟨hw9, hx0⟩ := hp
        subst hw9
        subst hx0
        have hP := hP.sub (ws' := [(mo, mo_ fg le sg tp bl pr rs (n) (dn) (sv) (rk) (tn) (ms) (th)), (fg, aI cI (52200) (G)), (le, aI cI (190) (Ln))]) [0, 1, 2] rfl
        have hD := hD.sub (ws' := [(mo, mo_ fg le sg tp bl pr rs (n) (dn) (sv) (rk) (tn) (ms) (th)), (fg, aI cI (52200) (G)), (le, aI cI (190) (Ln))]) [0, 1, 2] (by decide) rfl
        refine lv_iload_n hx hb dX11_copy_30 rfl (lv_at hl 0 rfl) ?_
        refine zr_iadd hx hb dX11_copy_31 ?_
        refine zr_iald hx hb hK hP 1 0 rfl rfl (mdA s9 + i) (by omega) (by omega) (by omega) dX11_copy_32 ?_
        refine zr_iast hx hb hK hP hD hS 1 0 rfl rfl (mdA r9 + i) (by omega) (by omega) (by omega) dX11_copy_33 (fun H locs hP hD hS => ?_)
        have hP : va_P D vwCl [(mo, mo_ fg le sg tp bl pr rs (n) (dn) (sv) (rk) (tn) (ms) (th)), (fg, aI cI (52200) (zu (G) (mdA r9 + i) ((G) (mdA s9 + i)))), (le, aI cI (190) (Ln))] H := hP
        have hD : va_D A [(mo, mo_ fg le sg tp bl pr rs (n) (dn) (sv) (rk) (tn) (ms) (th)), (fg, aI cI (52200) (zu (G) (mdA r9 + i) ((G) (mdA s9 + i)))), (le, aI cI (190) (Ln))] := hD
        refine lv_iinc (v := iZ (((i + 1 : Nat) : Int))) (lv' := [(3, .int (iZ (((i + 1 : Nat) : Int)))), (0, .ref (mo)), (1, .int (iZ (((r9 : Nat) : Int)))), (2, .int (iZ (((s9 : Nat) : Int))))]) hx hb dX11_copy_34 hl (k := 0) rfl (by rw [show ((i + 1 : Nat) : Int) = ((i : Nat) : Int) + 1 by omega]; exact iZ_add _ _) (by decide) rfl (fun ls hl => ?_)
        refine lv_goto (tgt := 2) hx hb dX11_copy_37 (by decide) ?_
        exact ih (i + 1) _ H locs ls (by omega) (md_off_zu hoff (by omega)) (fun j hj => by by_cases q : j = i; (subst q; rw [zu_s]; exact hoff _ (by rcases mdA_ne hrs with w | w <;> omega)); (rw [zu_n G _ (by omega)]; exact hcp j (by omega))) hP hD hS (lv_sub hl [0, 1, 2, 3] rfl)
  refine lv_iconst (v := iZ 0) hx hb dX11_copy_0 rfl ?_
  refine lv_istore_n (lv' := [(3, .int (iZ (0))), (0, .ref (mo)), (1, .int (iZ (((r9 : Nat) : Int)))), (2, .int (iZ (((s9 : Nat) : Int))))]) hx hb dX11_copy_1 rfl hl (by decide) rfl (fun ls hl => ?_)
  exact lp m 0 F s.heap [] ls (by omega) (md_off_refl F r9) (fun j hj => absurd hj (Nat.not_lt_zero j)) hP hD hS (lv_sub hl [0, 1, 2, 3] rfl)

set_option maxHeartbeats 4000000 in
set_option maxRecDepth 100000 in
/-- Model.isOne -/
theorem c_misOne (l : Launch) (D : va_G) (cI cJ cE cF cR : ClassId) (mo fg le sg tp bl pr rs : Nat) (n dn sv rk tn ms th : Int) (s9 : Nat) (F Ln : Nat → Int) (v1 : Int) (hs9 : s9 < 188) (hn1 : md_n F Ln s9 v1) : Ci l D (zty cI cJ cE cF cR) yX11_isOne wsX11_isOne (zRm 1 20) 0 0 [.ref (mo), .int (iZ (((s9 : Nat) : Int)))] [(mo, mo_ fg le sg tp bl pr rs (n) (dn) (sv) (rk) (tn) (ms) (th)), (fg, aI cI (52200) (F)), (le, aI cI (190) (Ln))] (fun r w1 => w1 = [(mo, mo_ fg le sg tp bl pr rs (n) (dn) (sv) (rk) (tn) (ms) (th)), (fg, aI cI (52200) (F)), (le, aI cI (190) (Ln))] ∧ r = if v1 = 1 then 1 else 0) := by
  unfold Ci
  refine zs (Qc := zQi D _ _) (cc := cX11_isOne) (maxL := 2) (ret := (some .boolean)) (by decide) rfl (Nat.le_of_ble_eq_true rfl) ?_
  intro zp ze s zm below meth zc ls A args Q hQ hx hb hr hts hown hlk hml hnm hN hA hK hP hD hS hl
  have q_f_RX11_14_LimbSolverModel_length_I := hts (.fieldLink RX11 14 "LimbSolverModel" "length" "[I") (by decide +kernel)
  have hin11 : ∀ w ∈ wsX110, w ∈ wsX11_isOne := by decide +kernel
  have q_f_RX11_8_LimbSolverModel_figure_I := hts (.fieldLink RX11 8 "LimbSolverModel" "figure" "[I") (by decide +kernel)
  have hl : lv_has ls 2 [(0, .ref (mo)), (1, .int (iZ (((s9 : Nat) : Int))))] := hl
  obtain ⟨m, hLs, hvs⟩ := hn1
  have hm9 := hvs.1
  have hcs := mdC_b s9
  have hAs := mdA_b hs9
  have hv0 : 0 < m → 0 ≤ F (mdA s9 + 0) ∧ F (mdA s9 + 0) < 65536 := fun q => hvs.2.1 0 q
  have hone : m = 1 → F (mdA s9 + 0) = 1 → v1 = 1 := fun q1 q2 => by
    subst q1
    rw [← hvs.2.2.2, hx_vs, hx_v0, hx_p0]
    show 0 + F (mdA s9 + 0) * 1 = 1
    omega
  have hno : v1 = 1 → m = 1 ∧ F (mdA s9 + 0) = 1 := fun q => by
    have a1 : m ≤ 1 := hx_ok_cnt hvs (by rw [q]; decide)
    have a2 : m ≠ 0 := fun w => by have := (hx_ok_zero hvs).mpr w; omega
    obtain rfl : m = 1 := by omega
    refine ⟨rfl, ?_⟩
    have e := hvs.2.2.2
    rw [hx_vs, hx_v0, hx_p0, q] at e
    have e : 0 + F (mdA s9 + 0) * 1 = 1 := e
    omega
  refine lv_aload_n hx hb dX11_isOne_0 rfl (lv_at hl 0 rfl) ?_
  refine va_get (D := D) (ci := 11) (v := .ref (le)) (C := RX11) (T := TX11) (N := 14) hx hb hts hin11 hown hK hP 0 rfl rfl 1 (by decide) q_f_RX11_14_LimbSolverModel_length_I (fun _ h9 => h9) rfl dX11_isOne_1 ?_
  refine lv_iload_n hx hb dX11_isOne_4 rfl (lv_at hl 1 rfl) ?_
  refine zr_iald hx hb hK hP 2 0 rfl rfl (s9) (by omega) (by omega) (by omega) dX11_isOne_5 ?_
  refine zr_eqi ((m : Nat) : Int) hLs ?_
  refine lv_iconst (v := iZ 1) hx hb dX11_isOne_6 rfl ?_
  refine zr_icmp_ne hx hb 27 ⟨by omega, by omega⟩ ⟨by omega, by omega⟩ dX11_isOne_7 (by decide) (fun h_7 => ?_) (fun h_7 => ?_)
  · refine lv_iconst (v := iZ 0) hx hb dX11_isOne_27 rfl ?_
    exact zr_zret hQ hx hb hr hlk dX11_isOne_28 hK hP hD hS (by omega) (by omega) (by omega) (⟨rfl, by rw [if_neg (fun q => by have := hno q; omega)]⟩)
  · refine lv_aload_n hx hb dX11_isOne_10 rfl (lv_at hl 0 rfl) ?_
    refine va_get (D := D) (ci := 11) (v := .ref (fg)) (C := RX11) (T := TX11) (N := 14) hx hb hts hin11 hown hK hP 0 rfl rfl 0 (by decide) q_f_RX11_8_LimbSolverModel_figure_I (fun _ h9 => h9) rfl dX11_isOne_11 ?_
    refine lv_iload_n hx hb dX11_isOne_14 rfl (lv_at hl 1 rfl) ?_
    refine zc_Si (As := [.int (iZ (((s9 : Nat) : Int)))]) (rest := [.ref (fg)]) (wr := [(mo, mo_ fg le sg tp bl pr rs (n) (dn) (sv) (rk) (tn) (ms) (th)), (fg, aI cI (52200) (F)), (le, aI cI (190) (Ln))]) ⟨hx, hb, hml, hown, hts⟩ (c_at l D cI cJ cE cF cR s9 (by omega)) (va_cwS 1 hts gX11_isOne_X11_at rfl rfl rfl (by decide +kernel) ⟨Nat.le_of_ble_eq_true rfl, Nat.le_of_ble_eq_true rfl⟩) hN hK hP hD hS hA [] [0, 1, 2] rfl rfl (by decide) (by decide) (by decide) rfl hl.1 (Nat.le_of_ble_eq_true rfl) dX11_isOne_15 ⟨by decide, by decide⟩ (fun z15 w1 H locs hz15 hp hP hD hS => ?_)
    obtain ⟨hw9, hx0⟩ := hp
    subst hw9
    subst hx0
    have hP := hP.sub (ws' := [(mo, mo_ fg le sg tp bl pr rs (n) (dn) (sv) (rk) (tn) (ms) (th)), (fg, aI cI (52200) (F)), (le, aI cI (190) (Ln))]) [0, 1, 2] rfl
    have hD := hD.sub (ws' := [(mo, mo_ fg le sg tp bl pr rs (n) (dn) (sv) (rk) (tn) (ms) (th)), (fg, aI cI (52200) (F)), (le, aI cI (190) (Ln))]) [0, 1, 2] (by decide) rfl
    refine zr_iald hx hb hK hP 1 0 rfl rfl (mdA s9 + 0) (by omega) (by omega) (by omega) dX11_isOne_18 ?_
    refine lv_iconst (v := iZ 1) hx hb dX11_isOne_19 rfl ?_
    refine zr_icmp_ne hx hb 27 ⟨by have := hv0 (by omega); omega, by have := hv0 (by omega); omega⟩ ⟨by omega, by omega⟩ dX11_isOne_20 (by decide) (fun h_20 => ?_) (fun h_20 => ?_)
    · refine lv_iconst (v := iZ 0) hx hb dX11_isOne_27 rfl ?_
      exact zr_zret hQ hx hb hr hlk dX11_isOne_28 hK hP hD hS (by omega) (by omega) (by omega) (⟨rfl, by rw [if_neg (fun q => by have := hno q; omega)]⟩)
    · refine lv_iconst (v := iZ 1) hx hb dX11_isOne_23 rfl ?_
      refine lv_goto (tgt := 28) hx hb dX11_isOne_24 (by decide) ?_
      exact zr_zret hQ hx hb hr hlk dX11_isOne_28 hK hP hD hS (by omega) (by omega) (by omega) (⟨rfl, by rw [if_pos (hone (by omega) (by omega))]⟩)

set_option maxHeartbeats 4000000 in
set_option maxRecDepth 100000 in
/-- Model.compare -/
theorem c_mcompare (l : Launch) (D : va_G) (cI cJ cE cF cR : ClassId) (mo fg le sg tp bl pr rs : Nat) (n dn sv rk tn ms th : Int) (s9 t9 : Nat) (F Ln : Nat → Int) (v1 v2 : Int) (hs9 : s9 < 188) (ht9 : t9 < 188) (hn1 : md_n F Ln s9 v1) (hn2 : md_n F Ln t9 v2) : Ci l D (zty cI cJ cE cF cR) yX11_compare wsX11_compare (zRm 1 20) 0 0 [.ref (mo), .int (iZ (((s9 : Nat) : Int))), .int (iZ (((t9 : Nat) : Int)))] [(mo, mo_ fg le sg tp bl pr rs (n) (dn) (sv) (rk) (tn) (ms) (th)), (fg, aI cI (52200) (F)), (le, aI cI (190) (Ln))] (fun r w1 => w1 = [(mo, mo_ fg le sg tp bl pr rs (n) (dn) (sv) (rk) (tn) (ms) (th)), (fg, aI cI (52200) (F)), (le, aI cI (190) (Ln))] ∧ ((r = -1 ∧ v1 < v2) ∨ (r = 0 ∧ v1 = v2) ∨ (r = 1 ∧ v2 < v1))) := by
  unfold Ci
  refine zs (Qc := zQi D _ _) (cc := cX11_compare) (maxL := 5) (ret := (some .int)) (by decide) rfl (Nat.le_of_ble_eq_true rfl) ?_
  intro zp ze s zm below meth zc ls A args Q hQ hx hb hr hts hown hlk hml hnm hN hA hK hP hD hS hl
  have q_f_RX11_8_LimbSolverModel_figure_I := hts (.fieldLink RX11 8 "LimbSolverModel" "figure" "[I") (by decide +kernel)
  have hin11 : ∀ w ∈ wsX110, w ∈ wsX11_compare := by decide +kernel
  have q_f_RX11_14_LimbSolverModel_length_I := hts (.fieldLink RX11 14 "LimbSolverModel" "length" "[I") (by decide +kernel)
  have hl : lv_has ls 5 [(0, .ref (mo)), (1, .int (iZ (((s9 : Nat) : Int)))), (2, .int (iZ (((t9 : Nat) : Int))))] := hl
  obtain ⟨m, hLs, hvs⟩ := hn1
  obtain ⟨k, hLt, hvt⟩ := hn2
  have hm9 := hvs.1
  have hk9 := hvt.1
  have hcs := mdC_b s9
  have hct := mdC_b t9
  have hAs := mdA_b hs9
  have hAt := mdA_b ht9
  have again : m = k → ∀ ls : Array Slot, lv_has ls 5 [(0, .ref (mo)), (1, .int (iZ (((s9 : Nat) : Int)))), (2, .int (iZ (((t9 : Nat) : Int))))] → W zp l ze (zRm 1 20) s zm args below meth zc s.heap [] 0 0 Q (F0 zm 36 ls []) := by
    intro hnk ls hl
    have loop : ∀ (t : Nat) (H : Heap) (locs : List Loc) (ls : Array Slot), t ≤ m → (∀ j : Nat, t ≤ j → j < m → F (mdA s9 + j) = F (mdA t9 + j)) → va_P D vwCl [(mo, mo_ fg le sg tp bl pr rs (n) (dn) (sv) (rk) (tn) (ms) (th)), (fg, aI cI (52200) (F)), (le, aI cI (190) (Ln))] H → va_D A [(mo, mo_ fg le sg tp bl pr rs (n) (dn) (sv) (rk) (tn) (ms) (th)), (fg, aI cI (52200) (F)), (le, aI cI (190) (Ln))] → va_S A s.heap H locs → lv_has ls 5 [(3, .int (iZ (((t : Nat) : Int) - 1))), (0, .ref (mo)), (1, .int (iZ (((s9 : Nat) : Int)))), (2, .int (iZ (((t9 : Nat) : Int))))] → W zp l ze (zRm 1 20) s zm args below meth zc H locs 0 0 Q (F0 zm 45 ls []) := by
      intro t
      induction t with
      | zero =>
        intro H locs ls htn hs hP hD hS hl
        refine lv_iload_n hx hb dX11_compare_45 rfl (lv_at hl 0 rfl) ?_
        refine zr_if_lt hx hb 96 ⟨by omega, by omega⟩ dX11_compare_46 (by decide) (fun h_46 => ?_) (fun h_46 => ?_)
        · refine lv_iconst (v := iZ 0) hx hb dX11_compare_96 rfl ?_
          exact zr_iret hQ hx hb hr hlk dX11_compare_97 hK hP hD hS (by omega) (by omega) ⟨by omega, by omega⟩ (⟨rfl, Or.inr (Or.inl ⟨rfl, by have q := hx_val_congr (d := fun i => F (mdA s9 + i)) (e := fun i => F (mdA t9 + i)) (n := m) (fun j hj => hs j (Nat.zero_le j) hj); rw [hvs.2.2.2] at q; have q2 := hvt.2.2.2; rw [← hnk] at q2; omega⟩)⟩)
        · exfalso; omega
      | succ t ih =>
        intro H locs ls htn hs hP hD hS hl
        refine lv_iload_n hx hb dX11_compare_45 rfl (lv_at hl 0 rfl) ?_
        refine zr_if_lt hx hb 96 ⟨by omega, by omega⟩ dX11_compare_46 (by decide) (fun h_46 => ?_) (fun h_46 => ?_)
        · exfalso; omega
        · have b0 : 0 ≤ F (mdA s9 + t) ∧ F (mdA s9 + t) < 65536 := hvs.2.1 t (by omega)
          have b1 : 0 ≤ F (mdA t9 + t) ∧ F (mdA t9 + t) < 65536 := hvt.2.1 t (by omega)
          refine lv_aload_n hx hb dX11_compare_49 rfl (lv_at hl 1 rfl) ?_
          refine va_get (D := D) (ci := 11) (v := .ref (fg)) (C := RX11) (T := TX11) (N := 14) hx hb hts hin11 hown hK hP 0 rfl rfl 0 (by decide) q_f_RX11_8_LimbSolverModel_figure_I (fun _ h9 => h9) rfl dX11_compare_50 ?_
          refine lv_iload_n hx hb dX11_compare_53 rfl (lv_at hl 2 rfl) ?_
          refine zc_Si (As := [.int (iZ (((s9 : Nat) : Int)))]) (rest := [.ref (fg)]) (wr := [(mo, mo_ fg le sg tp bl pr rs (n) (dn) (sv) (rk) (tn) (ms) (th)), (fg, aI cI (52200) (F)), (le, aI cI (190) (Ln))]) ⟨hx, hb, hml, hown, hts⟩ (c_at l D cI cJ cE cF cR s9 (by omega)) (va_cwS 1 hts gX11_compare_X11_at rfl rfl rfl (by decide +kernel) ⟨Nat.le_of_ble_eq_true rfl, Nat.le_of_ble_eq_true rfl⟩) hN hK hP hD hS hA [] [0, 1, 2] rfl rfl (by decide) (by decide) (by decide) rfl hl.1 (Nat.le_of_ble_eq_true rfl) dX11_compare_54 ⟨by decide, by decide⟩ (fun z54 w1 H locs hz54 hp hP hD hS => ?_)
          obtain ⟨hw9, hx0⟩ := hp
          subst hw9
          subst hx0
          have hP := hP.sub (ws' := [(mo, mo_ fg le sg tp bl pr rs (n) (dn) (sv) (rk) (tn) (ms) (th)), (fg, aI cI (52200) (F)), (le, aI cI (190) (Ln))]) [0, 1, 2] rfl
          have hD := hD.sub (ws' := [(mo, mo_ fg le sg tp bl pr rs (n) (dn) (sv) (rk) (tn) (ms) (th)), (fg, aI cI (52200) (F)), (le, aI cI (190) (Ln))]) [0, 1, 2] (by decide) rfl
          refine lv_iload_n hx hb dX11_compare_57 rfl (lv_at hl 0 rfl) ?_
          refine zr_iadd hx hb dX11_compare_58 ?_
          refine zr_iald hx hb hK hP 1 0 rfl rfl (mdA s9 + t) (by omega) (by omega) (by omega) dX11_compare_59 ?_
          refine lv_aload_n hx hb dX11_compare_60 rfl (lv_at hl 1 rfl) ?_
          refine va_get (D := D) (ci := 11) (v := .ref (fg)) (C := RX11) (T := TX11) (N := 14) hx hb hts hin11 hown hK hP 0 rfl rfl 0 (by decide) q_f_RX11_8_LimbSolverModel_figure_I (fun _ h9 => h9) rfl dX11_compare_61 ?_
          refine lv_iload_n hx hb dX11_compare_64 rfl (lv_at hl 3 rfl) ?_
          refine zc_Si (As := [.int (iZ (((t9 : Nat) : Int)))]) (rest := [.ref (fg), .int (iZ ((F) (mdA s9 + t)))]) (wr := [(mo, mo_ fg le sg tp bl pr rs (n) (dn) (sv) (rk) (tn) (ms) (th)), (fg, aI cI (52200) (F)), (le, aI cI (190) (Ln))]) ⟨hx, hb, hml, hown, hts⟩ (c_at l D cI cJ cE cF cR t9 (by omega)) (va_cwS 1 hts gX11_compare_X11_at rfl rfl rfl (by decide +kernel) ⟨Nat.le_of_ble_eq_true rfl, Nat.le_of_ble_eq_true rfl⟩) hN hK hP hD hS hA [] [0, 1, 2] rfl rfl (by decide) (by decide) (by decide) rfl hl.1 (Nat.le_of_ble_eq_true rfl) dX11_compare_65 ⟨by decide, by decide⟩ (fun z65 w1 H locs hz65 hp hP hD hS => ?_)
          obtain ⟨hw9, hx0⟩ := hp
          subst hw9
          subst hx0
          have hP := hP.sub (ws' := [(mo, mo_ fg le sg tp bl pr rs (n) (dn) (sv) (rk) (tn) (ms) (th)), (fg, aI cI (52200) (F)), (le, aI cI (190) (Ln))]) [0, 1, 2] rfl
          have hD := hD.sub (ws' := [(mo, mo_ fg le sg tp bl pr rs (n) (dn) (sv) (rk) (tn) (ms) (th)), (fg, aI cI (52200) (F)), (le, aI cI (190) (Ln))]) [0, 1, 2] (by decide) rfl
          refine lv_iload_n hx hb dX11_compare_68 rfl (lv_at hl 0 rfl) ?_
          refine zr_iadd hx hb dX11_compare_69 ?_
          refine zr_iald hx hb hK hP 1 0 rfl rfl (mdA t9 + t) (by omega) (by omega) (by omega) dX11_compare_70 ?_
          refine zr_isub hx hb dX11_compare_71 ?_
          refine lv_istore (lv' := [(4, .int (iZ (((F) (mdA s9 + t)) - ((F) (mdA t9 + t))))), (3, .int (iZ (((t + 1 : Nat) : Int) - 1))), (0, .ref (mo)), (1, .int (iZ (((s9 : Nat) : Int)))), (2, .int (iZ (((t9 : Nat) : Int))))]) hx hb dX11_compare_72 hl (by decide) rfl (fun ls hl => ?_)
          refine lv_iload hx hb dX11_compare_74 (lv_at hl 0 rfl) ?_
          refine zr_if_eq hx hb 90 ⟨by omega, by omega⟩ dX11_compare_76 (by decide) (fun h_76 => ?_) (fun h_76 => ?_)
          · refine lv_iinc (v := iZ (((t : Nat) : Int) - 1)) (lv' := [(3, .int (iZ (((t : Nat) : Int) - 1))), (4, .int (iZ (((F) (mdA s9 + t)) - ((F) (mdA t9 + t))))), (0, .ref (mo)), (1, .int (iZ (((s9 : Nat) : Int)))), (2, .int (iZ (((t9 : Nat) : Int))))]) hx hb dX11_compare_90 hl (k := 1) rfl (by rw [show ((t : Nat) : Int) - 1 = (((t + 1 : Nat) : Int) - 1) + (-1) by omega]; exact iZ_add _ _) (by decide) rfl (fun ls hl => ?_)
            refine lv_goto (tgt := 45) hx hb dX11_compare_93 (by decide) ?_
            exact ih H locs ls (by omega) (fun j hj hjn => by by_cases q : j = t; (subst q; omega); exact hs j (by omega) hjn) hP hD hS (lv_sub hl [0, 2, 3, 4] rfl)
          · refine lv_iload hx hb dX11_compare_79 (lv_at hl 0 rfl) ?_
            refine zr_if_ge hx hb 88 ⟨by omega, by omega⟩ dX11_compare_81 (by decide) (fun h_81 => ?_) (fun h_81 => ?_)
            · refine lv_iconst (v := iZ 1) hx hb dX11_compare_88 rfl ?_
              exact zr_iret hQ hx hb hr hlk dX11_compare_89 hK hP hD hS (by omega) (by omega) (by decide) (⟨rfl, Or.inr (Or.inr ⟨rfl, by have q := hx_lt_digit (d := fun i => F (mdA t9 + i)) (e := fun i => F (mdA s9 + i)) (n := m) (i := t) (hnk ▸ hvt.2.1) hvs.2.1 (show t < m by omega) (show F (mdA t9 + t) < F (mdA s9 + t) by omega) (fun j q1 q2 => (hs j (by omega) q2).symm); have e1 := hvs.2.2.2; have e2 := hvt.2.2.2; rw [← hnk] at e2; omega⟩)⟩)
            · refine lv_iconst (v := iZ (-1)) hx hb dX11_compare_84 rfl ?_
              refine lv_goto (tgt := 89) hx hb dX11_compare_85 (by decide) ?_
              exact zr_iret hQ hx hb hr hlk dX11_compare_89 hK hP hD hS (by omega) (by omega) (by decide) (⟨rfl, Or.inl ⟨rfl, by have q := hx_lt_digit (d := fun i => F (mdA s9 + i)) (e := fun i => F (mdA t9 + i)) (n := m) (i := t) hvs.2.1 (hnk ▸ hvt.2.1) (show t < m by omega) (show F (mdA s9 + t) < F (mdA t9 + t) by omega) (fun j q1 q2 => hs j (by omega) q2); have e1 := hvs.2.2.2; have e2 := hvt.2.2.2; rw [← hnk] at e2; omega⟩⟩)
    refine lv_aload_n hx hb dX11_compare_36 rfl (lv_at hl 0 rfl) ?_
    refine va_get (D := D) (ci := 11) (v := .ref (le)) (C := RX11) (T := TX11) (N := 14) hx hb hts hin11 hown hK hP 0 rfl rfl 1 (by decide) q_f_RX11_14_LimbSolverModel_length_I (fun _ h9 => h9) rfl dX11_compare_37 ?_
    refine lv_iload_n hx hb dX11_compare_40 rfl (lv_at hl 1 rfl) ?_
    refine zr_iald hx hb hK hP 2 0 rfl rfl (s9) (by omega) (by omega) (by omega) dX11_compare_41 ?_
    refine zr_eqi ((m : Nat) : Int) hLs ?_
    refine lv_iconst (v := iZ 1) hx hb dX11_compare_42 rfl ?_
    refine zr_isub hx hb dX11_compare_43 ?_
    refine lv_istore_n (lv' := [(3, .int (iZ ((((m : Nat) : Int)) - (1)))), (0, .ref (mo)), (1, .int (iZ (((s9 : Nat) : Int)))), (2, .int (iZ (((t9 : Nat) : Int))))]) hx hb dX11_compare_44 rfl hl (by decide) rfl (fun ls hl => ?_)
    exact loop m s.heap [] ls (Nat.le_refl m) (fun j q1 q2 => absurd q1 (by omega)) hP hD hS (lv_sub hl [0, 1, 2, 3] rfl)
  refine lv_aload_n hx hb dX11_compare_0 rfl (lv_at hl 0 rfl) ?_
  refine va_get (D := D) (ci := 11) (v := .ref (le)) (C := RX11) (T := TX11) (N := 14) hx hb hts hin11 hown hK hP 0 rfl rfl 1 (by decide) q_f_RX11_14_LimbSolverModel_length_I (fun _ h9 => h9) rfl dX11_compare_1 ?_
  refine lv_iload_n hx hb dX11_compare_4 rfl (lv_at hl 1 rfl) ?_
  refine zr_iald hx hb hK hP 2 0 rfl rfl (s9) (by omega) (by omega) (by omega) dX11_compare_5 ?_
  refine zr_eqi ((m : Nat) : Int) hLs ?_
  refine lv_aload_n hx hb dX11_compare_6 rfl (lv_at hl 0 rfl) ?_
  refine va_get (D := D) (ci := 11) (v := .ref (le)) (C := RX11) (T := TX11) (N := 14) hx hb hts hin11 hown hK hP 0 rfl rfl 1 (by decide) q_f_RX11_14_LimbSolverModel_length_I (fun _ h9 => h9) rfl dX11_compare_7 ?_
  refine lv_iload_n hx hb dX11_compare_10 rfl (lv_at hl 2 rfl) ?_
  refine zr_iald hx hb hK hP 2 0 rfl rfl (t9) (by omega) (by omega) (by omega) dX11_compare_11 ?_
  refine zr_eqi ((k : Nat) : Int) hLt ?_
  refine zr_icmp_eq hx hb 36 ⟨by omega, by omega⟩ ⟨by omega, by omega⟩ dX11_compare_12 (by decide) (fun h_12 => ?_) (fun h_12 => ?_)
  · exact again (by omega) ls hl
  · refine lv_aload_n hx hb dX11_compare_15 rfl (lv_at hl 0 rfl) ?_
    refine va_get (D := D) (ci := 11) (v := .ref (le)) (C := RX11) (T := TX11) (N := 14) hx hb hts hin11 hown hK hP 0 rfl rfl 1 (by decide) q_f_RX11_14_LimbSolverModel_length_I (fun _ h9 => h9) rfl dX11_compare_16 ?_
    refine lv_iload_n hx hb dX11_compare_19 rfl (lv_at hl 1 rfl) ?_
    refine zr_iald hx hb hK hP 2 0 rfl rfl (s9) (by omega) (by omega) (by omega) dX11_compare_20 ?_
    refine zr_eqi ((m : Nat) : Int) hLs ?_
    refine lv_aload_n hx hb dX11_compare_21 rfl (lv_at hl 0 rfl) ?_
    refine va_get (D := D) (ci := 11) (v := .ref (le)) (C := RX11) (T := TX11) (N := 14) hx hb hts hin11 hown hK hP 0 rfl rfl 1 (by decide) q_f_RX11_14_LimbSolverModel_length_I (fun _ h9 => h9) rfl dX11_compare_22 ?_
    refine lv_iload_n hx hb dX11_compare_25 rfl (lv_at hl 2 rfl) ?_
    refine zr_iald hx hb hK hP 2 0 rfl rfl (t9) (by omega) (by omega) (by omega) dX11_compare_26 ?_
    refine zr_eqi ((k : Nat) : Int) hLt ?_
    refine zr_icmp_ge hx hb 34 ⟨by omega, by omega⟩ ⟨by omega, by omega⟩ dX11_compare_27 (by decide) (fun h_27 => ?_) (fun h_27 => ?_)
    · refine lv_iconst (v := iZ 1) hx hb dX11_compare_34 rfl ?_
      exact zr_iret hQ hx hb hr hlk dX11_compare_35 hK hP hD hS (by omega) (by omega) (by decide) (⟨rfl, Or.inr (Or.inr ⟨rfl, by have q := hx_lt_cnt hvt.2.1 hvs.2.1 hvs.2.2.1 (show k < m by omega); have e1 := hvs.2.2.2; have e2 := hvt.2.2.2; omega⟩)⟩)
    · refine lv_iconst (v := iZ (-1)) hx hb dX11_compare_30 rfl ?_
      refine lv_goto (tgt := 35) hx hb dX11_compare_31 (by decide) ?_
      exact zr_iret hQ hx hb hr hlk dX11_compare_35 hK hP hD hS (by omega) (by omega) (by decide) (⟨rfl, Or.inl ⟨rfl, by have q := hx_lt_cnt hvs.2.1 hvt.2.1 hvt.2.2.1 (show m < k by omega); have e1 := hvs.2.2.2; have e2 := hvt.2.2.2; omega⟩⟩)
