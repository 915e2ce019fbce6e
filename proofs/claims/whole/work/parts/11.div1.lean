def kd_K (V U H N t pair : Int) : Prop := ∃ V' U' P lv lu : Int, 0 < P ∧ V' = lv + (N + H * 2147483648) * P ∧ U' = lu + (t + pair * 2147483648) * P ∧ (0 ≤ lv ∧ lv < P) ∧ (0 ≤ lu ∧ lu < P) ∧ (∀ q : Int, q * V ≤ U ↔ q * V' ≤ U') ∧ 0 ≤ V' ∧ U' < V' * 2147483648
theorem kd_K_q0 {V U H N t pair q : Int} (k : kd_K V U H N t pair) (hN : 0 ≤ N) (ht : t < 2147483648) (hH : 0 < H) (hq : 0 ≤ q) (h : q * V ≤ U) : q ≤ pair / H := by
  obtain ⟨V', U', P, lv, lu, h1, h2, h3, h4, h5, h6, h7, h8⟩ := k
  exact kd_q0 h1 h2 h3 h4.1 h5.2 hN ht hH hq ((h6 q).mp h)
theorem kd_K_gt {V U H N t pair q z left : Int} (k : kd_K V U H N t pair) (hz : 0 ≤ z) (hleft : left = pair - z * H) (h : q * V ≤ U) (ht : left * 2147483648 + t < z * N) : q ≤ z - 1 := by
  obtain ⟨V', U', P, lv, lu, h1, h2, h3, h4, h5, h6, h7, h8⟩ := k
  exact kd_gt h1 h2 h3 h4.1 h5.2 hz hleft h7 ((h6 q).mp h) ht
theorem kd_K_close {V U H N t pair z left : Int} (k : kd_K V U H N t pair) (hz : 0 ≤ z ∧ z < 2147483648) (hleft : left = pair - z * H) (hN : 0 ≤ N) (hH : 1 ≤ H) (ht : z * N ≤ left * 2147483648 + t) : (z - 1) * V ≤ U := by
  obtain ⟨V', U', P, lv, lu, h1, h2, h3, h4, h5, h6, h7, h8⟩ := k
  exact (h6 _).mpr (kd_close h1 h2 h3 h4.2 h5.1 hz hleft h4.1 hN hH ht)
theorem kd_K_pair {V U H N t pair : Int} (k : kd_K V U H N t pair) (ht : 0 ≤ t) (hN : N < 2147483648) : pair < (H + 1) * 2147483648 := by
  obtain ⟨V', U', P, lv, lu, h1, h2, h3, h4, h5, h6, h7, h8⟩ := k
  have a1 : (t + pair * 2147483648) * P ≤ U' := by omega
  have a2 : V' * 2147483648 < ((1 + N + H * 2147483648) * 2147483648) * P := by
    have e : (1 + N + H * 2147483648) * P = P + (N + H * 2147483648) * P := by
      rw [show 1 + N + H * 2147483648 = 1 + (N + H * 2147483648) by omega, Int.add_mul, Int.one_mul]
    have e2 : ((1 + N + H * 2147483648) * 2147483648) * P = ((1 + N + H * 2147483648) * P) * 2147483648 := by rw [Int.mul_assoc, Int.mul_comm 2147483648 P, ← Int.mul_assoc]
    rw [e2, e]; omega
  have a3 : (pair * 2147483648) * P ≤ (t + pair * 2147483648) * P := Int.mul_le_mul_of_nonneg_right (by omega) (Int.le_of_lt h1)
  have a4 := kd_lt_of_mul h1 (show (pair * 2147483648) * P < ((1 + N + H * 2147483648) * 2147483648) * P by omega)
  omega
theorem kd_K_two {u v : Nat → Int} {a m M : Nat} (hu : bg_dg u M) (hM : a + (m + 2) < M) (hv : bg_dg v (m + 2)) (hUV : bg_val (fun j => u (a + j)) (m + 3) < bg_val v (m + 2) * 2147483648) : kd_K (bg_val v (m + 2)) (bg_val (fun j => u (a + j)) (m + 3)) (v (m + 1)) (v m) (u (a + m)) (u (a + (m + 2)) * 2147483648 + u (a + (m + 1))) := by
  have hw := bg_win_dg hu (show a + (m + 3) ≤ M by omega)
  refine ⟨_, _, bg_p m, bg_val v m, bg_val (fun j => u (a + j)) m, bg_p_pos m, kd_top2 v m, kd_top3 (fun j => u (a + j)) m, ⟨bg_val_nn (bg_dg_le hv (by omega)), bg_val_lt (bg_dg_le hv (by omega))⟩, ⟨bg_val_nn (bg_dg_le hw (by omega)), bg_val_lt (bg_dg_le hw (by omega))⟩, fun q => Iff.rfl, bg_val_nn hv, hUV⟩
theorem kd_K_one {u v : Nat → Int} {a : Nat} (hv : bg_dg v 1) (hUV : bg_val (fun j => u (a + j)) 2 < bg_val v 1 * 2147483648) : kd_K (bg_val v 1) (bg_val (fun j => u (a + j)) 2) (v 0) 0 0 (u (a + 1) * 2147483648 + u (a + 0)) := by
  have e1 : bg_val v 1 = v 0 := by rw [bg_vs, bg_v0, bg_p0]; omega
  have e2 : bg_val (fun j => u (a + j)) 2 = u (a + 1) * 2147483648 + u (a + 0) := by
    rw [bg_vs, bg_vs, bg_v0, bg_p0, bg_p_small.1]; omega
  have h0 := hv 0 (by omega)
  rw [e1, e2] at hUV ⊢
  refine ⟨v 0 * 2147483648, (u (a + 1) * 2147483648 + u (a + 0)) * 2147483648, 1, 0, 0, by decide, by omega, by omega, ⟨by decide, by decide⟩, ⟨by decide, by decide⟩, fun q => ?_, by omega, by omega⟩
  rw [← Int.mul_assoc]
  constructor
  · intro h; omega
  · intro h; omega
set_option maxHeartbeats 4000000 in
set_option maxRecDepth 100000 in
/-- Division.guessDigit: the digit or 1 more -/
theorem c_guessDigit (l : Launch) (D : va_G) (cI cJ cE cF cR : ClassId) (dv dd ds L at_ M : Nat) (u v : Nat → Int) (hu : bg_dg u M) (hvd : bg_dg v L) (hL1 : 1 ≤ L) (hM : at_ + L < M) (hM2 : M ≤ 97) (htop : 1073741824 ≤ v (L - 1)) (hUV : bg_val (fun j => u (at_ + j)) (L + 1) < bg_val v L * 2147483648) : Ci l D (zty cI cJ cE cF cR) yX1_guessDigit wsX1_guessDigit (zRm 0 0) 0 0 [.ref (dv), .int (iZ (((at_ : Nat) : Int))), .int (iZ (((L : Nat) : Int)))] [(dv, .inr (1, [.ref (dd), .ref (ds)])), (dd, aI cI (97) (u)), (ds, aI cI (97) (v))] (fun r w1 => w1 = [(dv, .inr (1, [.ref (dd), .ref (ds)])), (dd, aI cI (97) (u)), (ds, aI cI (97) (v))] ∧ (0 ≤ r ∧ r < 2147483648) ∧ (∀ q : Int, 0 ≤ q → q * bg_val v L ≤ bg_val (fun j => u (at_ + j)) (L + 1) → q ≤ r) ∧ (r - 1) * bg_val v L ≤ bg_val (fun j => u (at_ + j)) (L + 1)) := by
  unfold Ci
  refine zs (Qc := zQi D _ _) (cc := cX1_guessDigit) (maxL := 17) (ret := (some .int)) (by decide) rfl (Nat.le_of_ble_eq_true rfl) ?_
  intro zp ze s zm below meth zc ls A args Q hQ hx hb hr hts hown hlk hml hnm hN hA hK hP hD hS hl
  have q_f_RX1_9_Division_dividend_I := hts (.fieldLink RX1 9 "LimbSolver$Division" "dividend" "[I") (by decide +kernel)
  have hin1 : ∀ w ∈ wsX10, w ∈ wsX1_guessDigit := by decide +kernel
  have q_f_RX1_15_Division_divisor_I := hts (.fieldLink RX1 15 "LimbSolver$Division" "divisor" "[I") (by decide +kernel)
  have q_constantLong_RX1_62_2147483647 := hts (.constantLong RX1 62 (2147483647)) (by decide +kernel)
  have hl : lv_has ls 17 [(0, .ref (dv)), (1, .int (iZ (((at_ : Nat) : Int)))), (2, .int (iZ (((L : Nat) : Int))))] := hl
  have bu0 := hu (at_ + L) (by omega)
  have bu1 := hu (at_ + L - 1) (by omega)
  have hV0 : 0 < bg_val v L := by
    obtain ⟨mm, rfl⟩ : ∃ mm, L = mm + 1 := ⟨L - 1, by omega⟩
    have q1 : bg_can v (mm + 1) := fun _ q => by rw [Nat.add_sub_cancel] at htop q; omega
    have q2 := bg_can_ge hvd q1
    have q3 := bg_p_pos mm
    omega
  have hU0 : 0 ≤ bg_val (fun j => u (at_ + j)) (L + 1) := bg_val_nn (bg_win_dg hu (by omega))
  have jn : ∀ (N2 t3 H1 : Int) (H : Heap) (locs : List Loc) (ls : Array Slot), (0 ≤ N2 ∧ N2 < 2147483648) → (0 ≤ t3 ∧ t3 < 2147483648) → (1073741824 ≤ H1 ∧ H1 < 2147483648) → (∀ pr : Int, pr = u (at_ + L) * 2147483648 + u (at_ + L - 1) → kd_K (bg_val v L) (bg_val (fun j => u (at_ + j)) (L + 1)) H1 N2 t3 pr) →  va_P D vwCl [(dv, .inr (1, [.ref (dd), .ref (ds)])), (dd, aI cI (97) (u)), (ds, aI cI (97) (v))] H → va_D A [(dv, .inr (1, [.ref (dd), .ref (ds)])), (dd, aI cI (97) (u)), (ds, aI cI (97) (v))] → va_S A s.heap H locs → lv_has ls 17 [(8, .long (lZ (t3))), (6, .long (lZ (N2))), (4, .long (lZ (H1))), (3, .int (iZ (((at_ + L : Nat) : Int)))), (0, .ref (dv)), (1, .int (iZ (((at_ : Nat) : Int)))), (2, .int (iZ (((L : Nat) : Int))))] → W zp l ze (zRm 0 0) s zm args below meth zc H locs 0 0 Q (F0 zm 86 ls []) := by
    intro N2 t3 H1 H locs ls hN2 ht3 hH1 hK9 hP hD hS hl
    refine lv_aload_n hx hb dX1_guessDigit_86 rfl (lv_at hl 4 rfl) ?_
    refine va_get (D := D) (ci := 1) (v := .ref (dd)) (C := RX1) (T := TX1) (N := 2) hx hb hts hin1 hown hK hP 0 rfl rfl 0 (by decide) q_f_RX1_9_Division_dividend_I (fun _ h9 => h9) rfl dX1_guessDigit_87 ?_
    refine lv_iload_n hx hb dX1_guessDigit_90 rfl (lv_at hl 3 rfl) ?_
    refine zr_iald hx hb hK hP 1 0 rfl rfl (at_ + L) (by omega) (by omega) (by omega) dX1_guessDigit_91 ?_
    refine zr_i2l hx hb ⟨by omega, by omega⟩ dX1_guessDigit_92 ?_
    refine lv_bipush (v := iZ 31) hx hb dX1_guessDigit_93 (by decide) ?_
    refine zr_lshl31 hx hb dX1_guessDigit_95 ?_
    refine lv_aload_n hx hb dX1_guessDigit_96 rfl (lv_at hl 4 rfl) ?_
    refine va_get (D := D) (ci := 1) (v := .ref (dd)) (C := RX1) (T := TX1) (N := 2) hx hb hts hin1 hown hK hP 0 rfl rfl 0 (by decide) q_f_RX1_9_Division_dividend_I (fun _ h9 => h9) rfl dX1_guessDigit_97 ?_
    refine lv_iload_n hx hb dX1_guessDigit_100 rfl (lv_at hl 3 rfl) ?_
    refine lv_iconst (v := iZ 1) hx hb dX1_guessDigit_101 rfl ?_
    refine zr_isub hx hb dX1_guessDigit_102 ?_
    refine zr_iald hx hb hK hP 1 0 rfl rfl (at_ + L - 1) (by omega) (by omega) (by omega) dX1_guessDigit_103 ?_
    refine zr_i2l hx hb ⟨by omega, by omega⟩ dX1_guessDigit_104 ?_
    refine zr_lor31 hx hb (by omega) (by omega) dX1_guessDigit_105 ?_
    refine zr_topl (fun pr hpr => ?_)
    have hK2 := hK9 pr hpr
    have hp9 := kd_K_pair hK2 ht3.1 hN2.2
    have hpr0 : 0 ≤ pr := by omega
    refine lv_lstore (lv' := [(10, .long (lZ (pr))), (8, .long (lZ (t3))), (6, .long (lZ (N2))), (4, .long (lZ (H1))), (3, .int (iZ (((at_ + L : Nat) : Int)))), (0, .ref (dv)), (1, .int (iZ (((at_ : Nat) : Int)))), (2, .int (iZ (((L : Nat) : Int))))]) hx hb dX1_guessDigit_106 hl (by decide) rfl (fun ls hl => ?_)
    have G2 : ∀ (z left : Int) (ls : Array Slot), left = pr - z * H1 → left < 8589934592 → z ≤ 2147483647 → 2147483648 ≤ left → (∀ q : Int, 0 ≤ q → q * bg_val v L ≤ bg_val (fun j => u (at_ + j)) (L + 1) → q ≤ z) → lv_has ls 17 [(16, .int (iZ (2))), (14, .long (lZ (left))), (12, .long (lZ (z))), (10, .long (lZ (pr))), (8, .long (lZ (t3))), (6, .long (lZ (N2))), (4, .long (lZ (H1))), (3, .int (iZ (((at_ + L : Nat) : Int)))), (0, .ref (dv)), (1, .int (iZ (((at_ : Nat) : Int)))), (2, .int (iZ (((L : Nat) : Int))))] → W zp l ze (zRm 0 0) s zm args below meth zc H locs 0 0 Q (F0 zm 128 ls []) := by
      intro z left ls hlf hlb hz1 hz2 hq hl
      have z0 := hq 0 (by omega) (by rw [Int.zero_mul]; exact hU0)
      refine lv_iload hx hb dX1_guessDigit_128 (lv_at hl 0 rfl) ?_
      refine lv_iconst (v := iZ 2) hx hb dX1_guessDigit_130 rfl ?_
      refine zr_icmp_ge hx hb 191 ⟨by omega, by omega⟩ ⟨by omega, by omega⟩ dX1_guessDigit_131 (by decide) (fun h_131 => ?_) (fun h_131 => ?_)
      · refine lv_lload hx hb dX1_guessDigit_191 (lv_at hl 2 rfl) ?_
        refine zr_l2i hx hb dX1_guessDigit_193 ?_
        exact zr_iret hQ hx hb hr hlk dX1_guessDigit_194 hK hP hD hS (by omega) (by omega) ⟨by omega, by omega⟩ (⟨rfl, ⟨by omega, by omega⟩, hq, kd_K_close hK2 ⟨by omega, by omega⟩ hlf hN2.1 (by omega) (by have q9 := bg_mul_dg (x := z) (y := N2) ⟨by omega, by omega⟩ hN2; omega)⟩)
      · exfalso; omega
    have G1 : ∀ (z left : Int) (ls : Array Slot), left = pr - z * H1 → left < 4294967296 → z ≤ 2147483648 → (z = 2147483648 → left ≤ 2147483647) → H1 ≤ left → (∀ q : Int, 0 ≤ q → q * bg_val v L ≤ bg_val (fun j => u (at_ + j)) (L + 1) → q ≤ z) → lv_has ls 17 [(16, .int (iZ (1))), (14, .long (lZ (left))), (12, .long (lZ (z))), (10, .long (lZ (pr))), (8, .long (lZ (t3))), (6, .long (lZ (N2))), (4, .long (lZ (H1))), (3, .int (iZ (((at_ + L : Nat) : Int)))), (0, .ref (dv)), (1, .int (iZ (((at_ : Nat) : Int)))), (2, .int (iZ (((L : Nat) : Int))))] → W zp l ze (zRm 0 0) s zm args below meth zc H locs 0 0 Q (F0 zm 128 ls []) := by
      intro z left ls hlf hlb hz1 hz2 hz3 hq hl
      have z0 := hq 0 (by omega) (by rw [Int.zero_mul]; exact hU0)
      refine lv_iload hx hb dX1_guessDigit_128 (lv_at hl 0 rfl) ?_
      refine lv_iconst (v := iZ 2) hx hb dX1_guessDigit_130 rfl ?_
      refine zr_icmp_ge hx hb 191 ⟨by omega, by omega⟩ ⟨by omega, by omega⟩ dX1_guessDigit_131 (by decide) (fun h_131 => ?_) (fun h_131 => ?_)
      · exfalso; omega
      · refine lv_lload hx hb dX1_guessDigit_134 (lv_at hl 1 rfl) ?_
        refine zr_ldc2 hx hb 2147483647 (by decide) hown q_constantLong_RX1_62_2147483647 dX1_guessDigit_136 ?_
        refine zr_lcmp_gt hx hb 191 ⟨by omega, by omega⟩ ⟨by omega, by omega⟩ dX1_guessDigit_139 dX1_guessDigit_140 (by decide) (fun h_139 => ?_) (fun h_139 => ?_)
        · refine lv_lload hx hb dX1_guessDigit_191 (lv_at hl 2 rfl) ?_
          refine zr_l2i hx hb dX1_guessDigit_193 ?_
          exact zr_iret hQ hx hb hr hlk dX1_guessDigit_194 hK hP hD hS (by omega) (by omega) ⟨by omega, by omega⟩ (⟨rfl, ⟨by omega, by omega⟩, hq, kd_K_close hK2 ⟨by omega, by omega⟩ hlf hN2.1 (by omega) (by first | omega | (have q9 := bg_mul_dg (x := z) (y := N2) ⟨by omega, by omega⟩ hN2; omega))⟩)
        · refine lv_lload hx hb dX1_guessDigit_143 (lv_at hl 2 rfl) ?_
          refine zr_ldc2 hx hb 2147483647 (by decide) hown q_constantLong_RX1_62_2147483647 dX1_guessDigit_145 ?_
          refine zr_lcmp_gt hx hb 172 ⟨by omega, by omega⟩ ⟨by omega, by omega⟩ dX1_guessDigit_148 dX1_guessDigit_149 (by decide) (fun h_148 => ?_) (fun h_148 => ?_)
          · refine lv_lload hx hb dX1_guessDigit_172 (lv_at hl 2 rfl) ?_
            refine lv_lconst (v := lZ 1) hx hb dX1_guessDigit_174 rfl ?_
            refine zr_lsub hx hb dX1_guessDigit_175 ?_
            refine lv_lstore (lv' := [(12, .long (lZ ((z) - (1)))), (16, .int (iZ (1))), (14, .long (lZ (left))), (10, .long (lZ (pr))), (8, .long (lZ (t3))), (6, .long (lZ (N2))), (4, .long (lZ (H1))), (3, .int (iZ (((at_ + L : Nat) : Int)))), (0, .ref (dv)), (1, .int (iZ (((at_ : Nat) : Int)))), (2, .int (iZ (((L : Nat) : Int))))]) hx hb dX1_guessDigit_176 hl (by decide) rfl (fun ls hl => ?_)
            refine lv_lload hx hb dX1_guessDigit_178 (lv_at hl 2 rfl) ?_
            refine lv_lload hx hb dX1_guessDigit_180 (lv_at hl 6 rfl) ?_
            refine zr_ladd hx hb dX1_guessDigit_182 ?_
            refine lv_lstore (lv' := [(14, .long (lZ ((left) + (H1)))), (12, .long (lZ ((z) - (1)))), (16, .int (iZ (1))), (10, .long (lZ (pr))), (8, .long (lZ (t3))), (6, .long (lZ (N2))), (4, .long (lZ (H1))), (3, .int (iZ (((at_ + L : Nat) : Int)))), (0, .ref (dv)), (1, .int (iZ (((at_ : Nat) : Int)))), (2, .int (iZ (((L : Nat) : Int))))]) hx hb dX1_guessDigit_183 hl (by decide) rfl (fun ls hl => ?_)
            refine lv_iinc (v := iZ (2)) (lv' := [(16, .int (iZ (2))), (14, .long (lZ ((left) + (H1)))), (12, .long (lZ ((z) - (1)))), (10, .long (lZ (pr))), (8, .long (lZ (t3))), (6, .long (lZ (N2))), (4, .long (lZ (H1))), (3, .int (iZ (((at_ + L : Nat) : Int)))), (0, .ref (dv)), (1, .int (iZ (((at_ : Nat) : Int)))), (2, .int (iZ (((L : Nat) : Int))))]) hx hb dX1_guessDigit_185 hl (k := 2) rfl rfl (by decide) rfl (fun ls hl => ?_)
            refine lv_goto (tgt := 128) hx hb dX1_guessDigit_188 (by decide) ?_
            exact G2 (z - 1) (left + H1) ls (by rw [Int.sub_mul, Int.one_mul]; omega) (by omega) (by omega) (by omega) (fun q q1 q2 => by first | (have q3 := kd_qB hV0 q2 hUV; omega) | exact kd_K_gt hK2 (by omega) hlf q2 (by omega)) (lv_sub hl [0, 1, 2, 3, 4, 5, 6, 7, 8, 9, 10] rfl)
          · refine lv_lload hx hb dX1_guessDigit_152 (lv_at hl 2 rfl) ?_
            refine lv_lload hx hb dX1_guessDigit_154 (lv_at hl 5 rfl) ?_
            have bm := bg_mul_dg (x := z) (y := N2) ⟨by omega, by omega⟩ hN2
            refine zr_lmul hx hb dX1_guessDigit_156 ?_
            refine lv_lload hx hb dX1_guessDigit_157 (lv_at hl 1 rfl) ?_
            refine lv_bipush (v := iZ 31) hx hb dX1_guessDigit_159 (by decide) ?_
            refine zr_lshl31 hx hb dX1_guessDigit_161 ?_
            refine lv_lload hx hb dX1_guessDigit_162 (lv_at hl 4 rfl) ?_
            refine zr_lor31 hx hb (by omega) (by omega) dX1_guessDigit_164 ?_
            refine zr_lcmp_gt hx hb 172 ⟨by omega, by omega⟩ ⟨by omega, by omega⟩ dX1_guessDigit_165 dX1_guessDigit_166 (by decide) (fun h_165 => ?_) (fun h_165 => ?_)
            · refine lv_lload hx hb dX1_guessDigit_172 (lv_at hl 2 rfl) ?_
              refine lv_lconst (v := lZ 1) hx hb dX1_guessDigit_174 rfl ?_
              refine zr_lsub hx hb dX1_guessDigit_175 ?_
              refine lv_lstore (lv' := [(12, .long (lZ ((z) - (1)))), (16, .int (iZ (1))), (14, .long (lZ (left))), (10, .long (lZ (pr))), (8, .long (lZ (t3))), (6, .long (lZ (N2))), (4, .long (lZ (H1))), (3, .int (iZ (((at_ + L : Nat) : Int)))), (0, .ref (dv)), (1, .int (iZ (((at_ : Nat) : Int)))), (2, .int (iZ (((L : Nat) : Int))))]) hx hb dX1_guessDigit_176 hl (by decide) rfl (fun ls hl => ?_)
              refine lv_lload hx hb dX1_guessDigit_178 (lv_at hl 2 rfl) ?_
              refine lv_lload hx hb dX1_guessDigit_180 (lv_at hl 6 rfl) ?_
              refine zr_ladd hx hb dX1_guessDigit_182 ?_
              refine lv_lstore (lv' := [(14, .long (lZ ((left) + (H1)))), (12, .long (lZ ((z) - (1)))), (16, .int (iZ (1))), (10, .long (lZ (pr))), (8, .long (lZ (t3))), (6, .long (lZ (N2))), (4, .long (lZ (H1))), (3, .int (iZ (((at_ + L : Nat) : Int)))), (0, .ref (dv)), (1, .int (iZ (((at_ : Nat) : Int)))), (2, .int (iZ (((L : Nat) : Int))))]) hx hb dX1_guessDigit_183 hl (by decide) rfl (fun ls hl => ?_)
              refine lv_iinc (v := iZ (2)) (lv' := [(16, .int (iZ (2))), (14, .long (lZ ((left) + (H1)))), (12, .long (lZ ((z) - (1)))), (10, .long (lZ (pr))), (8, .long (lZ (t3))), (6, .long (lZ (N2))), (4, .long (lZ (H1))), (3, .int (iZ (((at_ + L : Nat) : Int)))), (0, .ref (dv)), (1, .int (iZ (((at_ : Nat) : Int)))), (2, .int (iZ (((L : Nat) : Int))))]) hx hb dX1_guessDigit_185 hl (k := 2) rfl rfl (by decide) rfl (fun ls hl => ?_)
              refine lv_goto (tgt := 128) hx hb dX1_guessDigit_188 (by decide) ?_
              exact G2 (z - 1) (left + H1) ls (by rw [Int.sub_mul, Int.one_mul]; omega) (by omega) (by omega) (by omega) (fun q q1 q2 => by first | (have q3 := kd_qB hV0 q2 hUV; omega) | exact kd_K_gt hK2 (by omega) hlf q2 (by omega)) (lv_sub hl [0, 1, 2, 3, 4, 5, 6, 7, 8, 9, 10] rfl)
            · refine lv_goto (tgt := 191) hx hb dX1_guessDigit_169 (by decide) ?_
              refine lv_lload hx hb dX1_guessDigit_191 (lv_at hl 2 rfl) ?_
              refine zr_l2i hx hb dX1_guessDigit_193 ?_
              exact zr_iret hQ hx hb hr hlk dX1_guessDigit_194 hK hP hD hS (by omega) (by omega) ⟨by omega, by omega⟩ (⟨rfl, ⟨by omega, by omega⟩, hq, kd_K_close hK2 ⟨by omega, by omega⟩ hlf hN2.1 (by omega) (by first | omega | (have q9 := bg_mul_dg (x := z) (y := N2) ⟨by omega, by omega⟩ hN2; omega))⟩)
    have G0 : ∀ (z left : Int) (ls : Array Slot), left = pr - z * H1 → left < 2147483648 → z ≤ 2147483649 → (0 ≤ left ∧ left < H1) → (z = 2147483649 → left < 2147483648 - H1) → (∀ q : Int, 0 ≤ q → q * bg_val v L ≤ bg_val (fun j => u (at_ + j)) (L + 1) → q ≤ z) → lv_has ls 17 [(16, .int (iZ (0))), (14, .long (lZ (left))), (12, .long (lZ (z))), (10, .long (lZ (pr))), (8, .long (lZ (t3))), (6, .long (lZ (N2))), (4, .long (lZ (H1))), (3, .int (iZ (((at_ + L : Nat) : Int)))), (0, .ref (dv)), (1, .int (iZ (((at_ : Nat) : Int)))), (2, .int (iZ (((L : Nat) : Int))))] → W zp l ze (zRm 0 0) s zm args below meth zc H locs 0 0 Q (F0 zm 128 ls []) := by
      intro z left ls hlf hlb hz1 hz2 hz3 hq hl
      have z0 := hq 0 (by omega) (by rw [Int.zero_mul]; exact hU0)
      refine lv_iload hx hb dX1_guessDigit_128 (lv_at hl 0 rfl) ?_
      refine lv_iconst (v := iZ 2) hx hb dX1_guessDigit_130 rfl ?_
      refine zr_icmp_ge hx hb 191 ⟨by omega, by omega⟩ ⟨by omega, by omega⟩ dX1_guessDigit_131 (by decide) (fun h_131 => ?_) (fun h_131 => ?_)
      · exfalso; omega
      · refine lv_lload hx hb dX1_guessDigit_134 (lv_at hl 1 rfl) ?_
        refine zr_ldc2 hx hb 2147483647 (by decide) hown q_constantLong_RX1_62_2147483647 dX1_guessDigit_136 ?_
        refine zr_lcmp_gt hx hb 191 ⟨by omega, by omega⟩ ⟨by omega, by omega⟩ dX1_guessDigit_139 dX1_guessDigit_140 (by decide) (fun h_139 => ?_) (fun h_139 => ?_)
        · exfalso; omega
        · refine lv_lload hx hb dX1_guessDigit_143 (lv_at hl 2 rfl) ?_
          refine zr_ldc2 hx hb 2147483647 (by decide) hown q_constantLong_RX1_62_2147483647 dX1_guessDigit_145 ?_
          refine zr_lcmp_gt hx hb 172 ⟨by omega, by omega⟩ ⟨by omega, by omega⟩ dX1_guessDigit_148 dX1_guessDigit_149 (by decide) (fun h_148 => ?_) (fun h_148 => ?_)
          · refine lv_lload hx hb dX1_guessDigit_172 (lv_at hl 2 rfl) ?_
            refine lv_lconst (v := lZ 1) hx hb dX1_guessDigit_174 rfl ?_
            refine zr_lsub hx hb dX1_guessDigit_175 ?_
            refine lv_lstore (lv' := [(12, .long (lZ ((z) - (1)))), (16, .int (iZ (0))), (14, .long (lZ (left))), (10, .long (lZ (pr))), (8, .long (lZ (t3))), (6, .long (lZ (N2))), (4, .long (lZ (H1))), (3, .int (iZ (((at_ + L : Nat) : Int)))), (0, .ref (dv)), (1, .int (iZ (((at_ : Nat) : Int)))), (2, .int (iZ (((L : Nat) : Int))))]) hx hb dX1_guessDigit_176 hl (by decide) rfl (fun ls hl => ?_)
            refine lv_lload hx hb dX1_guessDigit_178 (lv_at hl 2 rfl) ?_
            refine lv_lload hx hb dX1_guessDigit_180 (lv_at hl 6 rfl) ?_
            refine zr_ladd hx hb dX1_guessDigit_182 ?_
            refine lv_lstore (lv' := [(14, .long (lZ ((left) + (H1)))), (12, .long (lZ ((z) - (1)))), (16, .int (iZ (0))), (10, .long (lZ (pr))), (8, .long (lZ (t3))), (6, .long (lZ (N2))), (4, .long (lZ (H1))), (3, .int (iZ (((at_ + L : Nat) : Int)))), (0, .ref (dv)), (1, .int (iZ (((at_ : Nat) : Int)))), (2, .int (iZ (((L : Nat) : Int))))]) hx hb dX1_guessDigit_183 hl (by decide) rfl (fun ls hl => ?_)
            refine lv_iinc (v := iZ (1)) (lv' := [(16, .int (iZ (1))), (14, .long (lZ ((left) + (H1)))), (12, .long (lZ ((z) - (1)))), (10, .long (lZ (pr))), (8, .long (lZ (t3))), (6, .long (lZ (N2))), (4, .long (lZ (H1))), (3, .int (iZ (((at_ + L : Nat) : Int)))), (0, .ref (dv)), (1, .int (iZ (((at_ : Nat) : Int)))), (2, .int (iZ (((L : Nat) : Int))))]) hx hb dX1_guessDigit_185 hl (k := 2) rfl rfl (by decide) rfl (fun ls hl => ?_)
            refine lv_goto (tgt := 128) hx hb dX1_guessDigit_188 (by decide) ?_
            exact G1 (z - 1) (left + H1) ls (by rw [Int.sub_mul, Int.one_mul]; omega) (by omega) (by omega) (fun _ => by omega) (by omega) (fun q q1 q2 => by first | (have q3 := kd_qB hV0 q2 hUV; omega) | exact kd_K_gt hK2 (by omega) hlf q2 (by omega)) (lv_sub hl [0, 1, 2, 3, 4, 5, 6, 7, 8, 9, 10] rfl)
          · refine lv_lload hx hb dX1_guessDigit_152 (lv_at hl 2 rfl) ?_
            refine lv_lload hx hb dX1_guessDigit_154 (lv_at hl 5 rfl) ?_
            have bm := bg_mul_dg (x := z) (y := N2) ⟨by omega, by omega⟩ hN2
            refine zr_lmul hx hb dX1_guessDigit_156 ?_
            refine lv_lload hx hb dX1_guessDigit_157 (lv_at hl 1 rfl) ?_
            refine lv_bipush (v := iZ 31) hx hb dX1_guessDigit_159 (by decide) ?_
            refine zr_lshl31 hx hb dX1_guessDigit_161 ?_
            refine lv_lload hx hb dX1_guessDigit_162 (lv_at hl 4 rfl) ?_
            refine zr_lor31 hx hb (by omega) (by omega) dX1_guessDigit_164 ?_
            refine zr_lcmp_gt hx hb 172 ⟨by omega, by omega⟩ ⟨by omega, by omega⟩ dX1_guessDigit_165 dX1_guessDigit_166 (by decide) (fun h_165 => ?_) (fun h_165 => ?_)
            · refine lv_lload hx hb dX1_guessDigit_172 (lv_at hl 2 rfl) ?_
              refine lv_lconst (v := lZ 1) hx hb dX1_guessDigit_174 rfl ?_
              refine zr_lsub hx hb dX1_guessDigit_175 ?_
              refine lv_lstore (lv' := [(12, .long (lZ ((z) - (1)))), (16, .int (iZ (0))), (14, .long (lZ (left))), (10, .long (lZ (pr))), (8, .long (lZ (t3))), (6, .long (lZ (N2))), (4, .long (lZ (H1))), (3, .int (iZ (((at_ + L : Nat) : Int)))), (0, .ref (dv)), (1, .int (iZ (((at_ : Nat) : Int)))), (2, .int (iZ (((L : Nat) : Int))))]) hx hb dX1_guessDigit_176 hl (by decide) rfl (fun ls hl => ?_)
              refine lv_lload hx hb dX1_guessDigit_178 (lv_at hl 2 rfl) ?_
              refine lv_lload hx hb dX1_guessDigit_180 (lv_at hl 6 rfl) ?_
              refine zr_ladd hx hb dX1_guessDigit_182 ?_
              refine lv_lstore (lv' := [(14, .long (lZ ((left) + (H1)))), (12, .long (lZ ((z) - (1)))), (16, .int (iZ (0))), (10, .long (lZ (pr))), (8, .long (lZ (t3))), (6, .long (lZ (N2))), (4, .long (lZ (H1))), (3, .int (iZ (((at_ + L : Nat) : Int)))), (0, .ref (dv)), (1, .int (iZ (((at_ : Nat) : Int)))), (2, .int (iZ (((L : Nat) : Int))))]) hx hb dX1_guessDigit_183 hl (by decide) rfl (fun ls hl => ?_)
              refine lv_iinc (v := iZ (1)) (lv' := [(16, .int (iZ (1))), (14, .long (lZ ((left) + (H1)))), (12, .long (lZ ((z) - (1)))), (10, .long (lZ (pr))), (8, .long (lZ (t3))), (6, .long (lZ (N2))), (4, .long (lZ (H1))), (3, .int (iZ (((at_ + L : Nat) : Int)))), (0, .ref (dv)), (1, .int (iZ (((at_ : Nat) : Int)))), (2, .int (iZ (((L : Nat) : Int))))]) hx hb dX1_guessDigit_185 hl (k := 2) rfl rfl (by decide) rfl (fun ls hl => ?_)
              refine lv_goto (tgt := 128) hx hb dX1_guessDigit_188 (by decide) ?_
              exact G1 (z - 1) (left + H1) ls (by rw [Int.sub_mul, Int.one_mul]; omega) (by omega) (by omega) (fun _ => by omega) (by omega) (fun q q1 q2 => by first | (have q3 := kd_qB hV0 q2 hUV; omega) | exact kd_K_gt hK2 (by omega) hlf q2 (by omega)) (lv_sub hl [0, 1, 2, 3, 4, 5, 6, 7, 8, 9, 10] rfl)
            · refine lv_goto (tgt := 191) hx hb dX1_guessDigit_169 (by decide) ?_
              refine lv_lload hx hb dX1_guessDigit_191 (lv_at hl 2 rfl) ?_
              refine zr_l2i hx hb dX1_guessDigit_193 ?_
              exact zr_iret hQ hx hb hr hlk dX1_guessDigit_194 hK hP hD hS (by omega) (by omega) ⟨by omega, by omega⟩ (⟨rfl, ⟨by omega, by omega⟩, hq, kd_K_close hK2 ⟨by omega, by omega⟩ hlf hN2.1 (by omega) (by first | omega | (have q9 := bg_mul_dg (x := z) (y := N2) ⟨by omega, by omega⟩ hN2; omega))⟩)
    refine lv_lload hx hb dX1_guessDigit_108 (lv_at hl 0 rfl) ?_
    refine lv_lload hx hb dX1_guessDigit_110 (lv_at hl 3 rfl) ?_
    refine zr_ldiv hx hb ⟨by omega, by omega⟩ ⟨by omega, by omega⟩ (by omega) (by omega) dX1_guessDigit_112 ?_
    refine lv_lstore (lv' := [(12, .long (lZ ((pr) / (H1)))), (10, .long (lZ (pr))), (8, .long (lZ (t3))), (6, .long (lZ (N2))), (4, .long (lZ (H1))), (3, .int (iZ (((at_ + L : Nat) : Int)))), (0, .ref (dv)), (1, .int (iZ (((at_ : Nat) : Int)))), (2, .int (iZ (((L : Nat) : Int))))]) hx hb dX1_guessDigit_113 hl (by decide) rfl (fun ls hl => ?_)
    refine lv_lload hx hb dX1_guessDigit_115 (lv_at hl 1 rfl) ?_
    refine lv_lload hx hb dX1_guessDigit_117 (lv_at hl 0 rfl) ?_
    refine lv_lload hx hb dX1_guessDigit_119 (lv_at hl 4 rfl) ?_
    refine zr_lmul hx hb dX1_guessDigit_121 ?_
    refine zr_lsub hx hb dX1_guessDigit_122 ?_
    refine lv_lstore (lv' := [(14, .long (lZ ((pr) - (((pr) / (H1)) * (H1))))), (12, .long (lZ ((pr) / (H1)))), (10, .long (lZ (pr))), (8, .long (lZ (t3))), (6, .long (lZ (N2))), (4, .long (lZ (H1))), (3, .int (iZ (((at_ + L : Nat) : Int)))), (0, .ref (dv)), (1, .int (iZ (((at_ : Nat) : Int)))), (2, .int (iZ (((L : Nat) : Int))))]) hx hb dX1_guessDigit_123 hl (by decide) rfl (fun ls hl => ?_)
    refine lv_iconst (v := iZ 0) hx hb dX1_guessDigit_125 rfl ?_
    refine lv_istore (lv' := [(16, .int (iZ (0))), (14, .long (lZ ((pr) - (((pr) / (H1)) * (H1))))), (12, .long (lZ ((pr) / (H1)))), (10, .long (lZ (pr))), (8, .long (lZ (t3))), (6, .long (lZ (N2))), (4, .long (lZ (H1))), (3, .int (iZ (((at_ + L : Nat) : Int)))), (0, .ref (dv)), (1, .int (iZ (((at_ : Nat) : Int)))), (2, .int (iZ (((L : Nat) : Int))))]) hx hb dX1_guessDigit_126 hl (by decide) rfl (fun ls hl => ?_)
    have e9 : pr - pr / H1 * H1 = pr % H1 := by rw [Int.emod_def, Int.mul_comm]
    have e8 := Int.emod_nonneg pr (show H1 ≠ 0 by omega)
    have e7 := Int.emod_lt_of_pos pr (show 0 < H1 by omega)
    exact G0 (pr / H1) (pr - pr / H1 * H1) ls rfl (by omega) (by have := Int.ediv_lt_of_lt_mul (show 0 < H1 by omega) (show pr < 2147483650 * H1 by omega); omega) ⟨by omega, by omega⟩ (fun e6 => by rw [e6]; omega) (fun q q1 q2 => kd_K_q0 hK2 hN2.1 ht3.2 (by omega) q1 q2) (lv_sub hl [0, 1, 2, 3, 4, 5, 6, 7, 8, 9, 10] rfl)
  refine lv_iload_n hx hb dX1_guessDigit_0 rfl (lv_at hl 1 rfl) ?_
  refine lv_iload_n hx hb dX1_guessDigit_1 rfl (lv_at hl 2 rfl) ?_
  refine zr_iadd hx hb dX1_guessDigit_2 ?_
  refine zr_eqi (((at_ + L : Nat) : Int)) (by omega) ?_
  refine lv_istore_n (lv' := [(3, .int (iZ (((at_ + L : Nat) : Int)))), (0, .ref (dv)), (1, .int (iZ (((at_ : Nat) : Int)))), (2, .int (iZ (((L : Nat) : Int))))]) hx hb dX1_guessDigit_3 rfl hl (by decide) rfl (fun ls hl => ?_)
  refine lv_iload_n hx hb dX1_guessDigit_4 rfl (lv_at hl 2 rfl) ?_
  refine zr_if_lt hx hb 33 ⟨by omega, by omega⟩ dX1_guessDigit_5 (by decide) (fun h_5 => ?_) (fun h_5 => ?_)
  · exfalso; omega
  · refine lv_iload_n hx hb dX1_guessDigit_8 rfl (lv_at hl 3 rfl) ?_
    refine lv_iconst (v := iZ 1) hx hb dX1_guessDigit_9 rfl ?_
    refine zr_icmp_lt hx hb 33 ⟨by omega, by omega⟩ ⟨by omega, by omega⟩ dX1_guessDigit_10 (by decide) (fun h_10 => ?_) (fun h_10 => ?_)
    · exfalso; omega
    · refine lv_iload_n hx hb dX1_guessDigit_13 rfl (lv_at hl 0 rfl) ?_
      refine lv_aload_n hx hb dX1_guessDigit_14 rfl (lv_at hl 1 rfl) ?_
      refine va_get (D := D) (ci := 1) (v := .ref (dd)) (C := RX1) (T := TX1) (N := 2) hx hb hts hin1 hown hK hP 0 rfl rfl 0 (by decide) q_f_RX1_9_Division_dividend_I (fun _ h9 => h9) rfl dX1_guessDigit_15 ?_
      refine zr_alen hx hb hK hP 1 0 rfl rfl dX1_guessDigit_18 ?_
      refine zr_icmp_ge hx hb 33 ⟨by omega, by omega⟩ ⟨by omega, by omega⟩ dX1_guessDigit_19 (by decide) (fun h_19 => ?_) (fun h_19 => ?_)
      · exfalso; omega
      · have bH := hvd (L - 1) (by omega)
        refine lv_aload_n hx hb dX1_guessDigit_22 rfl (lv_at hl 1 rfl) ?_
        refine va_get (D := D) (ci := 1) (v := .ref (ds)) (C := RX1) (T := TX1) (N := 2) hx hb hts hin1 hown hK hP 0 rfl rfl 1 (by decide) q_f_RX1_15_Division_divisor_I (fun _ h9 => h9) rfl dX1_guessDigit_23 ?_
        refine lv_iload_n hx hb dX1_guessDigit_26 rfl (lv_at hl 3 rfl) ?_
        refine lv_iconst (v := iZ 1) hx hb dX1_guessDigit_27 rfl ?_
        refine zr_isub hx hb dX1_guessDigit_28 ?_
        refine zr_iald hx hb hK hP 2 0 rfl rfl (L - 1) (by omega) (by omega) (by omega) dX1_guessDigit_29 ?_
        refine zr_if_ne hx hb 35 ⟨by omega, by omega⟩ dX1_guessDigit_30 (by decide) (fun h_30 => ?_) (fun h_30 => ?_)
        · refine lv_aload_n hx hb dX1_guessDigit_35 rfl (lv_at hl 1 rfl) ?_
          refine va_get (D := D) (ci := 1) (v := .ref (ds)) (C := RX1) (T := TX1) (N := 2) hx hb hts hin1 hown hK hP 0 rfl rfl 1 (by decide) q_f_RX1_15_Division_divisor_I (fun _ h9 => h9) rfl dX1_guessDigit_36 ?_
          refine lv_iload_n hx hb dX1_guessDigit_39 rfl (lv_at hl 3 rfl) ?_
          refine lv_iconst (v := iZ 1) hx hb dX1_guessDigit_40 rfl ?_
          refine zr_isub hx hb dX1_guessDigit_41 ?_
          refine zr_iald hx hb hK hP 2 0 rfl rfl (L - 1) (by omega) (by omega) (by omega) dX1_guessDigit_42 ?_
          refine zr_i2l hx hb ⟨by omega, by omega⟩ dX1_guessDigit_43 ?_
          refine lv_lstore (lv' := [(4, .long (lZ ((v) (L - 1)))), (3, .int (iZ (((at_ + L : Nat) : Int)))), (0, .ref (dv)), (1, .int (iZ (((at_ : Nat) : Int)))), (2, .int (iZ (((L : Nat) : Int))))]) hx hb dX1_guessDigit_44 hl (by decide) rfl (fun ls hl => ?_)
          refine lv_iload_n hx hb dX1_guessDigit_46 rfl (lv_at hl 4 rfl) ?_
          refine lv_iconst (v := iZ 1) hx hb dX1_guessDigit_47 rfl ?_
          refine zr_icmp_le hx hb 63 ⟨by omega, by omega⟩ ⟨by omega, by omega⟩ dX1_guessDigit_48 (by decide) (fun h_48 => ?_) (fun h_48 => ?_)
          · refine lv_lconst (v := lZ 0) hx hb dX1_guessDigit_63 rfl ?_
            refine lv_lstore (lv' := [(6, .long (lZ (0))), (4, .long (lZ ((v) (L - 1)))), (3, .int (iZ (((at_ + L : Nat) : Int)))), (0, .ref (dv)), (1, .int (iZ (((at_ : Nat) : Int)))), (2, .int (iZ (((L : Nat) : Int))))]) hx hb dX1_guessDigit_64 hl (by decide) rfl (fun ls hl => ?_)
            refine lv_iload_n hx hb dX1_guessDigit_66 rfl (lv_at hl 5 rfl) ?_
            refine lv_iconst (v := iZ 1) hx hb dX1_guessDigit_67 rfl ?_
            refine zr_icmp_le hx hb 83 ⟨by omega, by omega⟩ ⟨by omega, by omega⟩ dX1_guessDigit_68 (by decide) (fun h_68 => ?_) (fun h_68 => ?_)
            · refine lv_lconst (v := lZ 0) hx hb dX1_guessDigit_83 rfl ?_
              refine lv_lstore (lv' := [(8, .long (lZ (0))), (6, .long (lZ (0))), (4, .long (lZ ((v) (L - 1)))), (3, .int (iZ (((at_ + L : Nat) : Int)))), (0, .ref (dv)), (1, .int (iZ (((at_ : Nat) : Int)))), (2, .int (iZ (((L : Nat) : Int))))]) hx hb dX1_guessDigit_84 hl (by decide) rfl (fun ls hl => ?_)
              exact jn 0 0 (v (L - 1)) s.heap [] ls (by decide) (by decide) ⟨htop, bH.2⟩ (fun pr hpr => by obtain rfl : L = 1 := (by omega); rw [hpr]; exact kd_K_one hvd hUV) hP hD hS (lv_sub hl [0, 1, 2, 3, 4, 5, 6] rfl)
            · exfalso; omega
          · refine lv_aload_n hx hb dX1_guessDigit_51 rfl (lv_at hl 2 rfl) ?_
            refine va_get (D := D) (ci := 1) (v := .ref (ds)) (C := RX1) (T := TX1) (N := 2) hx hb hts hin1 hown hK hP 0 rfl rfl 1 (by decide) q_f_RX1_15_Division_divisor_I (fun _ h9 => h9) rfl dX1_guessDigit_52 ?_
            refine lv_iload_n hx hb dX1_guessDigit_55 rfl (lv_at hl 4 rfl) ?_
            refine lv_iconst (v := iZ 2) hx hb dX1_guessDigit_56 rfl ?_
            refine zr_isub hx hb dX1_guessDigit_57 ?_
            refine zr_iald hx hb hK hP 2 0 rfl rfl (L - 2) (by omega) (by omega) (by omega) dX1_guessDigit_58 ?_
            refine zr_i2l hx hb ⟨by have := hvd (L - 2) (by omega); omega, by have := hvd (L - 2) (by omega); omega⟩ dX1_guessDigit_59 ?_
            refine lv_goto (tgt := 64) hx hb dX1_guessDigit_60 (by decide) ?_
            refine lv_lstore (lv' := [(6, .long (lZ ((v) (L - 2)))), (4, .long (lZ ((v) (L - 1)))), (3, .int (iZ (((at_ + L : Nat) : Int)))), (0, .ref (dv)), (1, .int (iZ (((at_ : Nat) : Int)))), (2, .int (iZ (((L : Nat) : Int))))]) hx hb dX1_guessDigit_64 hl (by decide) rfl (fun ls hl => ?_)
            refine lv_iload_n hx hb dX1_guessDigit_66 rfl (lv_at hl 5 rfl) ?_
            refine lv_iconst (v := iZ 1) hx hb dX1_guessDigit_67 rfl ?_
            refine zr_icmp_le hx hb 83 ⟨by omega, by omega⟩ ⟨by omega, by omega⟩ dX1_guessDigit_68 (by decide) (fun h_68 => ?_) (fun h_68 => ?_)
            · exfalso; omega
            · refine lv_aload_n hx hb dX1_guessDigit_71 rfl (lv_at hl 3 rfl) ?_
              refine va_get (D := D) (ci := 1) (v := .ref (dd)) (C := RX1) (T := TX1) (N := 2) hx hb hts hin1 hown hK hP 0 rfl rfl 0 (by decide) q_f_RX1_9_Division_dividend_I (fun _ h9 => h9) rfl dX1_guessDigit_72 ?_
              refine lv_iload_n hx hb dX1_guessDigit_75 rfl (lv_at hl 2 rfl) ?_
              refine lv_iconst (v := iZ 2) hx hb dX1_guessDigit_76 rfl ?_
              refine zr_isub hx hb dX1_guessDigit_77 ?_
              refine zr_iald hx hb hK hP 1 0 rfl rfl (at_ + L - 2) (by omega) (by omega) (by omega) dX1_guessDigit_78 ?_
              refine zr_i2l hx hb ⟨by have := hu (at_ + L - 2) (by omega); omega, by have := hu (at_ + L - 2) (by omega); omega⟩ dX1_guessDigit_79 ?_
              refine lv_goto (tgt := 84) hx hb dX1_guessDigit_80 (by decide) ?_
              refine lv_lstore (lv' := [(8, .long (lZ ((u) (at_ + L - 2)))), (6, .long (lZ ((v) (L - 2)))), (4, .long (lZ ((v) (L - 1)))), (3, .int (iZ (((at_ + L : Nat) : Int)))), (0, .ref (dv)), (1, .int (iZ (((at_ : Nat) : Int)))), (2, .int (iZ (((L : Nat) : Int))))]) hx hb dX1_guessDigit_84 hl (by decide) rfl (fun ls hl => ?_)
              exact jn (v (L - 2)) (u (at_ + L - 2)) (v (L - 1)) s.heap [] ls (hvd (L - 2) (by omega)) (hu (at_ + L - 2) (by omega)) ⟨htop, bH.2⟩ (fun pr hpr => by obtain ⟨mm, rfl⟩ : ∃ mm, L = mm + 2 := ⟨L - 2, by omega⟩; rw [hpr]; exact kd_K_two hu hM hvd hUV) hP hD hS (lv_sub hl [0, 1, 2, 3, 4, 5, 6] rfl)
        · exfalso; omega
