theorem bg_mul_dg {x y : Int} (hx : 0 ≤ x ∧ x < 2147483648) (hy : 0 ≤ y ∧ y < 2147483648) : 0 ≤ x * y ∧ x * y ≤ 4611686014132420609 := by
  have h1 : 0 ≤ x * y := Int.mul_nonneg hx.1 hy.1
  have h2 : x * y ≤ 2147483647 * y := Int.mul_le_mul_of_nonneg_right (by omega) hy.1
  omega
theorem bg_mul_step {g e : Nat → Int} {i j L : Nat} {c f V : Int} (hL : i + j < L) (h : bg_val g L + c * bg_p (i + j) = V + f * bg_val e j * bg_p i) : bg_val (zu g (i + j) ((c + (f * e j + g (i + j))) % 2147483648)) L + ((c + (f * e j + g (i + j))) / 2147483648) * bg_p (i + (j + 1)) = V + f * bg_val e (j + 1) * bg_p i := by
  rw [bg_zu_val hL, bg_vs, ← Nat.add_assoc, bg_ps, Int.sub_mul]
  have h1 := bg_carry (c + (f * e j + g (i + j))) (bg_p (i + j))
  have h2 : f * (bg_val e j + e j * bg_p j) * bg_p i = f * bg_val e j * bg_p i + f * e j * bg_p (i + j) := by
    rw [bg_p_add, Int.mul_add, Int.add_mul]
    congr 1
    simp only [Int.mul_assoc, Int.mul_comm, Int.mul_left_comm]
  rw [Int.add_mul, Int.add_mul] at h1
  rw [h2]
  omega
theorem bg_mul_out {g e d : Nat → Int} {i k L : Nat} {c E : Int} (hL : i + k < L) (hz : g (i + k) = 0) (hE : bg_val e k = E) (h : bg_val g L + c * bg_p (i + k) = bg_val d i * E + d i * bg_val e k * bg_p i) : bg_val (zu g (i + k) c) L = bg_val d (i + 1) * E := by
  rw [bg_zu_val hL, hz, Int.sub_zero, h, hE, bg_vs, Int.add_mul, Int.mul_assoc, Int.mul_assoc, Int.mul_comm E]
theorem bg_val0 {g : Nat → Int} : ∀ {n : Nat}, (∀ j, j < n → g j = 0) → bg_val g n = 0 := by
  intro n
  induction n with
  | zero => intro _; rfl
  | succ n ih => intro h; rw [bg_vs, ih (fun j hj => h j (by omega)), h n (by omega), Int.zero_mul]; rfl
theorem bg_carry_lt {c f x y : Int} (hc : 0 ≤ c ∧ c < 2147483648) (hf : 0 ≤ f ∧ f < 2147483648) (hx : 0 ≤ x ∧ x < 2147483648) (hy : 0 ≤ y ∧ y < 2147483648) : 0 ≤ (c + (f * x + y)) / 2147483648 ∧ (c + (f * x + y)) / 2147483648 < 2147483648 := by
  have := bg_mul_dg hf hx
  omega
set_option maxHeartbeats 4000000 in
set_option maxRecDepth 100000 in
/-- Whole.multiply -/
theorem c_multiply (l : Launch) (D : va_G) (cI cJ cE cF cR : ClassId) (a w b v b2 u room r1 r2 n k : Nat) (cnt : Int) (g0 d e : Nat → Int) (v1 v2 : Int) (h1 : bg_ok d n r1 v1) (h2 : bg_ok e k r2 v2) (hroom : room < 2147483648) (hr1 : r1 < 2147483648) (hr2 : r2 < 2147483648) (hfit : n + k ≤ room) : Cv l D (zty cI cJ cE cF cR) yX9_multiply wsX9_multiply (zRm 1 22) 0 0 [.ref (a), .ref (b), .ref (b2)] [(a, .inr (9, [.ref (w), .int (iZ (cnt))])), (w, aI cI (room) (g0)), (b, .inr (9, [.ref (v), .int (iZ (((n : Nat) : Int)))])), (v, aI cI (r1) (d)), (b2, .inr (9, [.ref (u), .int (iZ (((k : Nat) : Int)))])), (u, aI cI (r2) (e))] (fun w1 => ∃ (g : Nat → Int) (cnt : Nat), w1 = [(a, .inr (9, [.ref (w), .int (iZ (((cnt : Nat) : Int)))])), (w, aI cI (room) (g)), (b, .inr (9, [.ref (v), .int (iZ (((n : Nat) : Int)))])), (v, aI cI (r1) (d)), (b2, .inr (9, [.ref (u), .int (iZ (((k : Nat) : Int)))])), (u, aI cI (r2) (e))] ∧ bg_ok g cnt room (v1 * v2)) := by
  unfold Cv
  refine zs (Qc := zQv D _ _) (cc := cX9_multiply) (maxL := 10) (ret := none) (by decide) rfl (Nat.le_of_ble_eq_true rfl) ?_
  intro zp ze s zm below meth zc ls A args Q hQ hx hb hr hts hown hlk hml hnm hN hA hK hP hD hS hl
  have q_f_RX9_15_Whole_count_I := hts (.fieldLink RX9 15 "LimbSolver$Whole" "count" "I") (by decide +kernel)
  have hin9 : ∀ w ∈ wsX90, w ∈ wsX9_multiply := by decide +kernel
  have q_f_RX9_9_Whole_words_I := hts (.fieldLink RX9 9 "LimbSolver$Whole" "words" "[I") (by decide +kernel)
  have q_constantLong_RX9_19_2147483647 := hts (.constantLong RX9 19 (2147483647)) (by decide +kernel)
  have hl : lv_has ls 10 [(0, .ref (a)), (1, .ref (b)), (2, .ref (b2))] := hl
  have hr1 := h1.1
  have hr2 := h2.1
  have outer : ∀ (t : Nat) (i : Nat) (g : Nat → Int) (H : Heap) (locs : List Loc) (ls : Array Slot), (i + t = n) → (bg_dg g (n + k)) → (∀ x : Nat, i + k ≤ x → x < n + k → g x = 0) → (bg_val g (n + k) = bg_val d i * v2) →  va_P D vwCl [(a, .inr (9, [.ref (w), .int (iZ (cnt))])), (w, aI cI (room) (g)), (b, .inr (9, [.ref (v), .int (iZ (((n : Nat) : Int)))])), (v, aI cI (r1) (d)), (b2, .inr (9, [.ref (u), .int (iZ (((k : Nat) : Int)))])), (u, aI cI (r2) (e))] H → va_D A [(a, .inr (9, [.ref (w), .int (iZ (cnt))])), (w, aI cI (room) (g)), (b, .inr (9, [.ref (v), .int (iZ (((n : Nat) : Int)))])), (v, aI cI (r1) (d)), (b2, .inr (9, [.ref (u), .int (iZ (((k : Nat) : Int)))])), (u, aI cI (r2) (e))] → va_S A s.heap H locs → lv_has ls 10 [(4, .int (iZ (((i : Nat) : Int)))), (3, .int (iZ (((n + k : Nat) : Int)))), (0, .ref (a)), (1, .ref (b)), (2, .ref (b2))] → W zp l ze (zRm 1 22) s zm args below meth zc H locs 0 0 Q (F0 zm 46 ls []) := by
    intro t
    induction t with
    | zero =>
      intro i g H locs ls hit hgd hgz hv hP hD hS hl
      have hin0 : i = n := by omega
      refine lv_iload hx hb dX9_multiply_46 (lv_at hl 0 rfl) ?_
      refine lv_aload_n hx hb dX9_multiply_48 rfl (lv_at hl 3 rfl) ?_
      refine va_get (D := D) (ci := 9) (v := .int (iZ (((n : Nat) : Int)))) (C := RX9) (T := TX9) (N := 2) hx hb hts hin9 hown hK hP 2 rfl rfl 1 (by decide) q_f_RX9_15_Whole_count_I (fun _ h9 => h9) rfl dX9_multiply_49 ?_
      refine zr_icmp_ge hx hb 159 ⟨by omega, by omega⟩ ⟨by omega, by omega⟩ dX9_multiply_52 (by decide) (fun h_52 => ?_) (fun h_52 => ?_)
      · refine lv_aload_n hx hb dX9_multiply_159 rfl (lv_at hl 2 rfl) ?_
        refine lv_iload_n hx hb dX9_multiply_160 rfl (lv_at hl 1 rfl) ?_
        refine zc_Vv (As := [.int (iZ (((n + k : Nat) : Int)))]) (rest := []) (wr := [(b, .inr (9, [.ref (v), .int (iZ (((n : Nat) : Int)))])), (v, aI cI (r1) (d)), (b2, .inr (9, [.ref (u), .int (iZ (((k : Nat) : Int)))])), (u, aI cI (r2) (e))]) ⟨hx, hb, hml, hown, hts⟩ (c_trim l D cI cJ cE cF cR a w room (n + k) cnt g hfit hroom hgd) (cwV 1 hts gX9_multiply_X9_trim rfl rfl rfl (by decide +kernel) ⟨Nat.le_of_ble_eq_true rfl, Nat.le_of_ble_eq_true rfl⟩) hN hK hP hD hS hA [0, 1] [2, 3, 4, 5] rfl rfl (by decide) (by decide) (by decide) (q0 := 0) (ci := 9) rfl rfl rfl rfl hl.1 (Nat.le_of_ble_eq_true rfl) dX9_multiply_161 ⟨by decide, by decide⟩ (fun w1 H locs hp hP hD hS => ?_)
        obtain rfl : w1 = _ := hp
        have hP := hP.sub (ws' := [(a, .inr (9, [.ref (w), .int (iZ (((bg_trim g (n + k) : Nat) : Int)))])), (w, aI cI (room) (g)), (b, .inr (9, [.ref (v), .int (iZ (((n : Nat) : Int)))])), (v, aI cI (r1) (d)), (b2, .inr (9, [.ref (u), .int (iZ (((k : Nat) : Int)))])), (u, aI cI (r2) (e))]) [4, 5, 0, 1, 2, 3] rfl
        have hD := hD.sub (ws' := [(a, .inr (9, [.ref (w), .int (iZ (((bg_trim g (n + k) : Nat) : Int)))])), (w, aI cI (room) (g)), (b, .inr (9, [.ref (v), .int (iZ (((n : Nat) : Int)))])), (v, aI cI (r1) (d)), (b2, .inr (9, [.ref (u), .int (iZ (((k : Nat) : Int)))])), (u, aI cI (r2) (e))]) [4, 5, 0, 1, 2, 3] (by decide) rfl
        exact zr_vret hQ hx hb hr hlk dX9_multiply_164 hK hP hD hS (by omega) (by omega) (⟨g, bg_trim g (n + k), rfl, by have hq := bg_ok_trim hfit hgd; rw [hv, hin0, h1.2.2.2] at hq; exact hq⟩)
      · exfalso; omega
    | succ t ih =>
      intro i g H locs ls hit hgd hgz hv hP hD hS hl
      have ihO := ih
      have inner : ∀ (t : Nat) (j : Nat) (c0 : Int) (g : Nat → Int) (H : Heap) (locs : List Loc) (ls : Array Slot), (j + t = k) → (bg_dg g (n + k)) → (∀ x : Nat, i + k ≤ x → x < n + k → g x = 0) → (0 ≤ c0 ∧ c0 < 2147483648) → (bg_val g (n + k) + c0 * bg_p (i + j) = bg_val d i * v2 + d i * bg_val e j * bg_p i) →  va_P D vwCl [(a, .inr (9, [.ref (w), .int (iZ (cnt))])), (w, aI cI (room) (g)), (b, .inr (9, [.ref (v), .int (iZ (((n : Nat) : Int)))])), (v, aI cI (r1) (d)), (b2, .inr (9, [.ref (u), .int (iZ (((k : Nat) : Int)))])), (u, aI cI (r2) (e))] H → va_D A [(a, .inr (9, [.ref (w), .int (iZ (cnt))])), (w, aI cI (room) (g)), (b, .inr (9, [.ref (v), .int (iZ (((n : Nat) : Int)))])), (v, aI cI (r1) (d)), (b2, .inr (9, [.ref (u), .int (iZ (((k : Nat) : Int)))])), (u, aI cI (r2) (e))] → va_S A s.heap H locs → lv_has ls 10 [(9, .int (iZ (((j : Nat) : Int)))), (7, .long (lZ (c0))), (5, .long (lZ (d i))), (4, .int (iZ (((i : Nat) : Int)))), (3, .int (iZ (((n + k : Nat) : Int)))), (0, .ref (a)), (1, .ref (b)), (2, .ref (b2))] → W zp l ze (zRm 1 22) s zm args below meth zc H locs 0 0 Q (F0 zm 71 ls []) := by
        intro t
        induction t with
        | zero =>
          intro j c0 g H locs ls hjt hgd hgz hc hv hP hD hS hl
          have hjk : j = k := by omega
          refine lv_iload hx hb dX9_multiply_71 (lv_at hl 0 rfl) ?_
          refine lv_aload_n hx hb dX9_multiply_73 rfl (lv_at hl 7 rfl) ?_
          refine va_get (D := D) (ci := 9) (v := .int (iZ (((k : Nat) : Int)))) (C := RX9) (T := TX9) (N := 2) hx hb hts hin9 hown hK hP 4 rfl rfl 1 (by decide) q_f_RX9_15_Whole_count_I (fun _ h9 => h9) rfl dX9_multiply_74 ?_
          refine zr_icmp_ge hx hb 138 ⟨by omega, by omega⟩ ⟨by omega, by omega⟩ dX9_multiply_77 (by decide) (fun h_77 => ?_) (fun h_77 => ?_)
          · refine lv_aload_n hx hb dX9_multiply_138 rfl (lv_at hl 5 rfl) ?_
            refine va_get (D := D) (ci := 9) (v := .ref (w)) (C := RX9) (T := TX9) (N := 2) hx hb hts hin9 hown hK hP 0 rfl rfl 0 (by decide) q_f_RX9_9_Whole_words_I (fun _ h9 => h9) rfl dX9_multiply_139 ?_
            refine lv_iload hx hb dX9_multiply_142 (lv_at hl 3 rfl) ?_
            refine lv_aload_n hx hb dX9_multiply_144 rfl (lv_at hl 7 rfl) ?_
            refine va_get (D := D) (ci := 9) (v := .int (iZ (((k : Nat) : Int)))) (C := RX9) (T := TX9) (N := 2) hx hb hts hin9 hown hK hP 4 rfl rfl 1 (by decide) q_f_RX9_15_Whole_count_I (fun _ h9 => h9) rfl dX9_multiply_145 ?_
            refine zr_iadd hx hb dX9_multiply_148 ?_
            refine lv_lload hx hb dX9_multiply_149 (lv_at hl 1 rfl) ?_
            refine zr_l2i hx hb dX9_multiply_151 ?_
            refine zr_iast hx hb hK hP hD hS 1 0 rfl rfl (i + k) (by omega) (by omega) (by omega) dX9_multiply_152 (fun H locs hP hD hS => ?_)
            have hP : va_P D vwCl [(a, .inr (9, [.ref (w), .int (iZ (cnt))])), (w, aI cI (room) (zu (g) (i + k) (c0))), (b, .inr (9, [.ref (v), .int (iZ (((n : Nat) : Int)))])), (v, aI cI (r1) (d)), (b2, .inr (9, [.ref (u), .int (iZ (((k : Nat) : Int)))])), (u, aI cI (r2) (e))] H := hP
            have hD : va_D A [(a, .inr (9, [.ref (w), .int (iZ (cnt))])), (w, aI cI (room) (zu (g) (i + k) (c0))), (b, .inr (9, [.ref (v), .int (iZ (((n : Nat) : Int)))])), (v, aI cI (r1) (d)), (b2, .inr (9, [.ref (u), .int (iZ (((k : Nat) : Int)))])), (u, aI cI (r2) (e))] := hD
            refine lv_iinc (v := iZ (((i + 1 : Nat) : Int))) (lv' := [(4, .int (iZ (((i + 1 : Nat) : Int)))), (9, .int (iZ (((j : Nat) : Int)))), (7, .long (lZ (c0))), (5, .long (lZ (d i))), (3, .int (iZ (((n + k : Nat) : Int)))), (0, .ref (a)), (1, .ref (b)), (2, .ref (b2))]) hx hb dX9_multiply_153 hl (k := 3) rfl (by rw [show ((i + 1 : Nat) : Int) = ((i : Nat) : Int) + 1 by omega]; exact iZ_add _ _) (by decide) rfl (fun ls hl => ?_)
            refine lv_goto (tgt := 46) hx hb dX9_multiply_156 (by decide) ?_
            exact ihO (i + 1) _ H locs ls (by omega) (bg_zu_dg hgd hc) (fun x h1 h2 => by rw [bg_zu_hi (by omega)]; exact hgz x (by omega) h2) (bg_mul_out (by omega) (hgz _ (Nat.le_refl _) (by omega)) h2.2.2.2 (hjk ▸ hv)) hP hD hS (lv_sub hl [0, 4, 5, 6, 7] rfl)
          · exfalso; omega
        | succ t ih =>
          intro j c0 g H locs ls hjt hgd hgz hc hv hP hD hS hl
          refine lv_iload hx hb dX9_multiply_71 (lv_at hl 0 rfl) ?_
          refine lv_aload_n hx hb dX9_multiply_73 rfl (lv_at hl 7 rfl) ?_
          refine va_get (D := D) (ci := 9) (v := .int (iZ (((k : Nat) : Int)))) (C := RX9) (T := TX9) (N := 2) hx hb hts hin9 hown hK hP 4 rfl rfl 1 (by decide) q_f_RX9_15_Whole_count_I (fun _ h9 => h9) rfl dX9_multiply_74 ?_
          refine zr_icmp_ge hx hb 138 ⟨by omega, by omega⟩ ⟨by omega, by omega⟩ dX9_multiply_77 (by decide) (fun h_77 => ?_) (fun h_77 => ?_)
          · exfalso; omega
          · have bf := h1.2.1 i (by omega)
            have be := h2.2.1 j (by omega)
            have bm := bg_mul_dg bf be
            have bg := hgd (i + j) (by omega)
            have hr2 := h2.1
            refine lv_lload hx hb dX9_multiply_80 (lv_at hl 1 rfl) ?_
            refine lv_lload hx hb dX9_multiply_82 (lv_at hl 2 rfl) ?_
            refine lv_aload_n hx hb dX9_multiply_84 rfl (lv_at hl 7 rfl) ?_
            refine va_get (D := D) (ci := 9) (v := .ref (u)) (C := RX9) (T := TX9) (N := 2) hx hb hts hin9 hown hK hP 4 rfl rfl 0 (by decide) q_f_RX9_9_Whole_words_I (fun _ h9 => h9) rfl dX9_multiply_85 ?_
            refine lv_iload hx hb dX9_multiply_88 (lv_at hl 0 rfl) ?_
            refine zr_iald hx hb hK hP 5 0 rfl rfl (j) (rfl) (by omega) (by omega) dX9_multiply_90 ?_
            refine zr_i2l hx hb ⟨by omega, by omega⟩ dX9_multiply_91 ?_
            refine zr_lmul hx hb dX9_multiply_92 ?_
            refine lv_aload_n hx hb dX9_multiply_93 rfl (lv_at hl 5 rfl) ?_
            refine va_get (D := D) (ci := 9) (v := .ref (w)) (C := RX9) (T := TX9) (N := 2) hx hb hts hin9 hown hK hP 0 rfl rfl 0 (by decide) q_f_RX9_9_Whole_words_I (fun _ h9 => h9) rfl dX9_multiply_94 ?_
            refine lv_iload hx hb dX9_multiply_97 (lv_at hl 3 rfl) ?_
            refine lv_iload hx hb dX9_multiply_99 (lv_at hl 0 rfl) ?_
            refine zr_iadd hx hb dX9_multiply_101 ?_
            refine zr_iald hx hb hK hP 1 0 rfl rfl (i + j) (by omega) (by omega) (by omega) dX9_multiply_102 ?_
            refine zr_i2l hx hb ⟨by omega, by omega⟩ dX9_multiply_103 ?_
            refine zr_ladd hx hb dX9_multiply_104 ?_
            refine zr_ladd hx hb dX9_multiply_105 ?_
            refine lv_lstore (lv' := [(7, .long (lZ ((c0) + (((d i) * ((e) (j))) + ((g) (i + j)))))), (9, .int (iZ (((j : Nat) : Int)))), (5, .long (lZ (d i))), (4, .int (iZ (((i : Nat) : Int)))), (3, .int (iZ (((n + k : Nat) : Int)))), (0, .ref (a)), (1, .ref (b)), (2, .ref (b2))]) hx hb dX9_multiply_106 hl (by decide) rfl (fun ls hl => ?_)
            refine lv_aload_n hx hb dX9_multiply_108 rfl (lv_at hl 5 rfl) ?_
            refine va_get (D := D) (ci := 9) (v := .ref (w)) (C := RX9) (T := TX9) (N := 2) hx hb hts hin9 hown hK hP 0 rfl rfl 0 (by decide) q_f_RX9_9_Whole_words_I (fun _ h9 => h9) rfl dX9_multiply_109 ?_
            refine lv_iload hx hb dX9_multiply_112 (lv_at hl 3 rfl) ?_
            refine lv_iload hx hb dX9_multiply_114 (lv_at hl 1 rfl) ?_
            refine zr_iadd hx hb dX9_multiply_116 ?_
            refine lv_lload hx hb dX9_multiply_117 (lv_at hl 0 rfl) ?_
            refine zr_ldc2 hx hb 2147483647 (by decide) hown q_constantLong_RX9_19_2147483647 dX9_multiply_119 ?_
            refine zr_land31 hx hb dX9_multiply_122 ?_
            refine zr_l2i hx hb dX9_multiply_123 ?_
            refine zr_iast hx hb hK hP hD hS 1 0 rfl rfl (i + j) (by omega) (by omega) (by omega) dX9_multiply_124 (fun H locs hP hD hS => ?_)
            have hP : va_P D vwCl [(a, .inr (9, [.ref (w), .int (iZ (cnt))])), (w, aI cI (room) (zu (g) (i + j) (((c0) + (((d i) * ((e) (j))) + ((g) (i + j)))) % 2147483648))), (b, .inr (9, [.ref (v), .int (iZ (((n : Nat) : Int)))])), (v, aI cI (r1) (d)), (b2, .inr (9, [.ref (u), .int (iZ (((k : Nat) : Int)))])), (u, aI cI (r2) (e))] H := hP
            have hD : va_D A [(a, .inr (9, [.ref (w), .int (iZ (cnt))])), (w, aI cI (room) (zu (g) (i + j) (((c0) + (((d i) * ((e) (j))) + ((g) (i + j)))) % 2147483648))), (b, .inr (9, [.ref (v), .int (iZ (((n : Nat) : Int)))])), (v, aI cI (r1) (d)), (b2, .inr (9, [.ref (u), .int (iZ (((k : Nat) : Int)))])), (u, aI cI (r2) (e))] := hD
            refine lv_lload hx hb dX9_multiply_125 (lv_at hl 0 rfl) ?_
            refine lv_bipush (v := iZ 31) hx hb dX9_multiply_127 (by decide) ?_
            refine zr_lshr31 hx hb ⟨by omega, by omega⟩ dX9_multiply_129 ?_
            refine lv_lstore (lv' := [(7, .long (lZ (((c0) + (((d i) * ((e) (j))) + ((g) (i + j)))) / 2147483648))), (9, .int (iZ (((j : Nat) : Int)))), (5, .long (lZ (d i))), (4, .int (iZ (((i : Nat) : Int)))), (3, .int (iZ (((n + k : Nat) : Int)))), (0, .ref (a)), (1, .ref (b)), (2, .ref (b2))]) hx hb dX9_multiply_130 hl (by decide) rfl (fun ls hl => ?_)
            refine lv_iinc (v := iZ (((j + 1 : Nat) : Int))) (lv' := [(9, .int (iZ (((j + 1 : Nat) : Int)))), (7, .long (lZ (((c0) + (((d i) * ((e) (j))) + ((g) (i + j)))) / 2147483648))), (5, .long (lZ (d i))), (4, .int (iZ (((i : Nat) : Int)))), (3, .int (iZ (((n + k : Nat) : Int)))), (0, .ref (a)), (1, .ref (b)), (2, .ref (b2))]) hx hb dX9_multiply_132 hl (k := 1) rfl (by rw [show ((j + 1 : Nat) : Int) = ((j : Nat) : Int) + 1 by omega]; exact iZ_add _ _) (by decide) rfl (fun ls hl => ?_)
            refine lv_goto (tgt := 71) hx hb dX9_multiply_135 (by decide) ?_
            exact ih (j + 1) _ _ H locs ls (by omega) (bg_zu_dg hgd (bg_mod _)) (fun x q1 q2 => by rw [bg_zu_hi (by omega)]; exact hgz x q1 q2) (bg_carry_lt hc bf be bg) (bg_mul_step (by omega) hv) hP hD hS (lv_sub hl [0, 1, 2, 3, 4, 5, 6, 7] rfl)
      refine lv_iload hx hb dX9_multiply_46 (lv_at hl 0 rfl) ?_
      refine lv_aload_n hx hb dX9_multiply_48 rfl (lv_at hl 3 rfl) ?_
      refine va_get (D := D) (ci := 9) (v := .int (iZ (((n : Nat) : Int)))) (C := RX9) (T := TX9) (N := 2) hx hb hts hin9 hown hK hP 2 rfl rfl 1 (by decide) q_f_RX9_15_Whole_count_I (fun _ h9 => h9) rfl dX9_multiply_49 ?_
      refine zr_icmp_ge hx hb 159 ⟨by omega, by omega⟩ ⟨by omega, by omega⟩ dX9_multiply_52 (by decide) (fun h_52 => ?_) (fun h_52 => ?_)
      · exfalso; omega
      · have hr1 := h1.1
        have bf := h1.2.1 i (by omega)
        refine lv_aload_n hx hb dX9_multiply_55 rfl (lv_at hl 3 rfl) ?_
        refine va_get (D := D) (ci := 9) (v := .ref (v)) (C := RX9) (T := TX9) (N := 2) hx hb hts hin9 hown hK hP 2 rfl rfl 0 (by decide) q_f_RX9_9_Whole_words_I (fun _ h9 => h9) rfl dX9_multiply_56 ?_
        refine lv_iload hx hb dX9_multiply_59 (lv_at hl 0 rfl) ?_
        refine zr_iald hx hb hK hP 3 0 rfl rfl (i) (rfl) (by omega) (by omega) dX9_multiply_61 ?_
        refine zr_i2l hx hb ⟨by omega, by omega⟩ dX9_multiply_62 ?_
        refine lv_lstore (lv' := [(5, .long (lZ ((d) (i)))), (4, .int (iZ (((i : Nat) : Int)))), (3, .int (iZ (((n + k : Nat) : Int)))), (0, .ref (a)), (1, .ref (b)), (2, .ref (b2))]) hx hb dX9_multiply_63 hl (by decide) rfl (fun ls hl => ?_)
        refine lv_lconst (v := lZ 0) hx hb dX9_multiply_65 rfl ?_
        refine lv_lstore (lv' := [(7, .long (lZ (0))), (5, .long (lZ ((d) (i)))), (4, .int (iZ (((i : Nat) : Int)))), (3, .int (iZ (((n + k : Nat) : Int)))), (0, .ref (a)), (1, .ref (b)), (2, .ref (b2))]) hx hb dX9_multiply_66 hl (by decide) rfl (fun ls hl => ?_)
        refine lv_iconst (v := iZ 0) hx hb dX9_multiply_68 rfl ?_
        refine lv_istore (lv' := [(9, .int (iZ (0))), (7, .long (lZ (0))), (5, .long (lZ ((d) (i)))), (4, .int (iZ (((i : Nat) : Int)))), (3, .int (iZ (((n + k : Nat) : Int)))), (0, .ref (a)), (1, .ref (b)), (2, .ref (b2))]) hx hb dX9_multiply_69 hl (by decide) rfl (fun ls hl => ?_)
        exact inner k 0 0 g H locs ls (by omega) hgd hgz ⟨by omega, by omega⟩ (by rw [Int.zero_mul, bg_v0, Int.mul_zero, Int.zero_mul, hv]) hP hD hS (lv_sub hl [0, 1, 2, 3, 4, 5, 6, 7] rfl)
  have zl : ∀ (t : Nat) (i : Nat) (g : Nat → Int) (H : Heap) (locs : List Loc) (ls : Array Slot), (i + t = n + k) → (∀ x : Nat, x < i → g x = 0) →  va_P D vwCl [(a, .inr (9, [.ref (w), .int (iZ (cnt))])), (w, aI cI (room) (g)), (b, .inr (9, [.ref (v), .int (iZ (((n : Nat) : Int)))])), (v, aI cI (r1) (d)), (b2, .inr (9, [.ref (u), .int (iZ (((k : Nat) : Int)))])), (u, aI cI (r2) (e))] H → va_D A [(a, .inr (9, [.ref (w), .int (iZ (cnt))])), (w, aI cI (room) (g)), (b, .inr (9, [.ref (v), .int (iZ (((n : Nat) : Int)))])), (v, aI cI (r1) (d)), (b2, .inr (9, [.ref (u), .int (iZ (((k : Nat) : Int)))])), (u, aI cI (r2) (e))] → va_S A s.heap H locs → lv_has ls 10 [(4, .int (iZ (((i : Nat) : Int)))), (3, .int (iZ (((n + k : Nat) : Int)))), (0, .ref (a)), (1, .ref (b)), (2, .ref (b2))] → W zp l ze (zRm 1 22) s zm args below meth zc H locs 0 0 Q (F0 zm 23 ls []) := by
    intro t
    induction t with
    | zero =>
      intro i g H locs ls hit hgz hP hD hS hl
      refine lv_iload hx hb dX9_multiply_23 (lv_at hl 0 rfl) ?_
      refine lv_iload_n hx hb dX9_multiply_25 rfl (lv_at hl 1 rfl) ?_
      refine zr_icmp_ge hx hb 43 ⟨by omega, by omega⟩ ⟨by omega, by omega⟩ dX9_multiply_26 (by decide) (fun h_26 => ?_) (fun h_26 => ?_)
      · refine lv_iconst (v := iZ 0) hx hb dX9_multiply_43 rfl ?_
        refine lv_istore (lv' := [(4, .int (iZ (0))), (3, .int (iZ (((n + k : Nat) : Int)))), (0, .ref (a)), (1, .ref (b)), (2, .ref (b2))]) hx hb dX9_multiply_44 hl (by decide) rfl (fun ls hl => ?_)
        exact outer n 0 g H locs ls (by omega) (fun x hx => by rw [hgz x (by omega)]; exact ⟨by omega, by omega⟩) (fun x _ hx => hgz x (by omega)) (by rw [bg_val0 (fun x hx => hgz x (by omega)), bg_v0, Int.zero_mul]) hP hD hS (lv_sub hl [0, 1, 2, 3, 4] rfl)
      · exfalso; omega
    | succ t ih =>
      intro i g H locs ls hit hgz hP hD hS hl
      refine lv_iload hx hb dX9_multiply_23 (lv_at hl 0 rfl) ?_
      refine lv_iload_n hx hb dX9_multiply_25 rfl (lv_at hl 1 rfl) ?_
      refine zr_icmp_ge hx hb 43 ⟨by omega, by omega⟩ ⟨by omega, by omega⟩ dX9_multiply_26 (by decide) (fun h_26 => ?_) (fun h_26 => ?_)
      · exfalso; omega
      · refine lv_aload_n hx hb dX9_multiply_29 rfl (lv_at hl 2 rfl) ?_
        refine va_get (D := D) (ci := 9) (v := .ref (w)) (C := RX9) (T := TX9) (N := 2) hx hb hts hin9 hown hK hP 0 rfl rfl 0 (by decide) q_f_RX9_9_Whole_words_I (fun _ h9 => h9) rfl dX9_multiply_30 ?_
        refine lv_iload hx hb dX9_multiply_33 (lv_at hl 0 rfl) ?_
        refine lv_iconst (v := iZ 0) hx hb dX9_multiply_35 rfl ?_
        refine zr_iast hx hb hK hP hD hS 1 0 rfl rfl (i) (rfl) (by omega) (by omega) dX9_multiply_36 (fun H locs hP hD hS => ?_)
        have hP : va_P D vwCl [(a, .inr (9, [.ref (w), .int (iZ (cnt))])), (w, aI cI (room) (zu (g) (i) (0))), (b, .inr (9, [.ref (v), .int (iZ (((n : Nat) : Int)))])), (v, aI cI (r1) (d)), (b2, .inr (9, [.ref (u), .int (iZ (((k : Nat) : Int)))])), (u, aI cI (r2) (e))] H := hP
        have hD : va_D A [(a, .inr (9, [.ref (w), .int (iZ (cnt))])), (w, aI cI (room) (zu (g) (i) (0))), (b, .inr (9, [.ref (v), .int (iZ (((n : Nat) : Int)))])), (v, aI cI (r1) (d)), (b2, .inr (9, [.ref (u), .int (iZ (((k : Nat) : Int)))])), (u, aI cI (r2) (e))] := hD
        refine lv_iinc (v := iZ (((i + 1 : Nat) : Int))) (lv' := [(4, .int (iZ (((i + 1 : Nat) : Int)))), (3, .int (iZ (((n + k : Nat) : Int)))), (0, .ref (a)), (1, .ref (b)), (2, .ref (b2))]) hx hb dX9_multiply_37 hl (k := 0) rfl (by rw [show ((i + 1 : Nat) : Int) = ((i : Nat) : Int) + 1 by omega]; exact iZ_add _ _) (by decide) rfl (fun ls hl => ?_)
        refine lv_goto (tgt := 23) hx hb dX9_multiply_40 (by decide) ?_
        exact ih (i + 1) _ H locs ls (by omega) (fun x hx => by by_cases q : x = i; (subst q; exact zu_s g x 0); (rw [zu_n g 0 q]; exact hgz x (by omega))) hP hD hS (lv_sub hl [0, 1, 2, 3, 4] rfl)
  refine lv_aload_n hx hb dX9_multiply_0 rfl (lv_at hl 1 rfl) ?_
  refine va_get (D := D) (ci := 9) (v := .int (iZ (((n : Nat) : Int)))) (C := RX9) (T := TX9) (N := 2) hx hb hts hin9 hown hK hP 2 rfl rfl 1 (by decide) q_f_RX9_15_Whole_count_I (fun _ h9 => h9) rfl dX9_multiply_1 ?_
  refine lv_aload_n hx hb dX9_multiply_4 rfl (lv_at hl 2 rfl) ?_
  refine va_get (D := D) (ci := 9) (v := .int (iZ (((k : Nat) : Int)))) (C := RX9) (T := TX9) (N := 2) hx hb hts hin9 hown hK hP 4 rfl rfl 1 (by decide) q_f_RX9_15_Whole_count_I (fun _ h9 => h9) rfl dX9_multiply_5 ?_
  refine zr_iadd hx hb dX9_multiply_8 ?_
  refine zr_eqi (((n + k : Nat) : Int)) (by omega) ?_
  refine lv_istore_n (lv' := [(3, .int (iZ (((n + k : Nat) : Int)))), (0, .ref (a)), (1, .ref (b)), (2, .ref (b2))]) hx hb dX9_multiply_9 rfl hl (by decide) rfl (fun ls hl => ?_)
  refine lv_iload_n hx hb dX9_multiply_10 rfl (lv_at hl 0 rfl) ?_
  refine lv_aload_n hx hb dX9_multiply_11 rfl (lv_at hl 1 rfl) ?_
  refine va_get (D := D) (ci := 9) (v := .ref (w)) (C := RX9) (T := TX9) (N := 2) hx hb hts hin9 hown hK hP 0 rfl rfl 0 (by decide) q_f_RX9_9_Whole_words_I (fun _ h9 => h9) rfl dX9_multiply_12 ?_
  refine zr_alen hx hb hK hP 1 0 rfl rfl dX9_multiply_15 ?_
  refine zr_icmp_le hx hb 20 ⟨by omega, by omega⟩ ⟨by omega, by omega⟩ dX9_multiply_16 (by decide) (fun h_16 => ?_) (fun h_16 => ?_)
  · refine lv_iconst (v := iZ 0) hx hb dX9_multiply_20 rfl ?_
    refine lv_istore (lv' := [(4, .int (iZ (0))), (3, .int (iZ (((n + k : Nat) : Int)))), (0, .ref (a)), (1, .ref (b)), (2, .ref (b2))]) hx hb dX9_multiply_21 hl (by decide) rfl (fun ls hl => ?_)
    exact zl (n + k) 0 g0 s.heap [] ls (by omega) (fun x hx => absurd hx (Nat.not_lt_zero x)) hP hD hS (lv_sub hl [0, 1, 2, 3, 4] rfl)
  · exfalso; omega

set_option maxHeartbeats 4000000 in
set_option maxRecDepth 100000 in
/-- Whole.against -/
theorem c_against (l : Launch) (D : va_G) (cI cJ cE cF cR : ClassId) (a w b v room room2 n k : Nat) (d e : Nat → Int) (v1 v2 : Int) (h1 : bg_ok d n room v1) (h2 : bg_ok e k room2 v2) (hroom : room < 2147483648) (hroom2 : room2 < 2147483648) : Ci l D (zty cI cJ cE cF cR) yX9_against wsX9_against (zRm 0 0) 0 0 [.ref (a), .ref (b)] [(a, .inr (9, [.ref (w), .int (iZ (((n : Nat) : Int)))])), (w, aI cI (room) (d)), (b, .inr (9, [.ref (v), .int (iZ (((k : Nat) : Int)))])), (v, aI cI (room2) (e))] (fun r w1 => w1 = [(a, .inr (9, [.ref (w), .int (iZ (((n : Nat) : Int)))])), (w, aI cI (room) (d)), (b, .inr (9, [.ref (v), .int (iZ (((k : Nat) : Int)))])), (v, aI cI (room2) (e))] ∧ (r < 0 ↔ v1 < v2) ∧ (r = 0 ↔ v1 = v2)) := by
  unfold Ci
  refine zs (Qc := zQi D _ _) (cc := cX9_against) (maxL := 3) (ret := (some .int)) (by decide) rfl (Nat.le_of_ble_eq_true rfl) ?_
  intro zp ze s zm below meth zc ls A args Q hQ hx hb hr hts hown hlk hml hnm hN hA hK hP hD hS hl
  have q_f_RX9_9_Whole_words_I := hts (.fieldLink RX9 9 "LimbSolver$Whole" "words" "[I") (by decide +kernel)
  have hin9 : ∀ w ∈ wsX90, w ∈ wsX9_against := by decide +kernel
  have q_f_RX9_15_Whole_count_I := hts (.fieldLink RX9 15 "LimbSolver$Whole" "count" "I") (by decide +kernel)
  have hl : lv_has ls 3 [(0, .ref (a)), (1, .ref (b))] := hl
  have hr1 := h1.1
  have hr2 := h2.1
  have again : n = k → ∀ ls : Array Slot, lv_has ls 3 [(0, .ref (a)), (1, .ref (b))] → W zp l ze (zRm 0 0) s zm args below meth zc s.heap [] 0 0 Q (F0 zm 21 ls []) := by
    intro hnk ls hl
    have loop : ∀ (t : Nat) (ls : Array Slot), t ≤ n → (∀ j : Nat, t ≤ j → j < n → d j = e j) → lv_has ls 3 [(2, .int (iZ (((t : Nat) : Int) - 1))), (0, .ref (a)), (1, .ref (b))] → W zp l ze (zRm 0 0) s zm args below meth zc s.heap [] 0 0 Q (F0 zm 28 ls []) := by
      intro t
      induction t with
      | zero =>
        intro ls htn hs hl
        refine lv_iload_n hx hb dX9_against_28 rfl (lv_at hl 0 rfl) ?_
        refine zr_if_lt hx hb 74 ⟨by omega, by omega⟩ dX9_against_29 (by decide) (fun h_29 => ?_) (fun h_29 => ?_)
        · refine lv_iconst (v := iZ 0) hx hb dX9_against_74 rfl ?_
          exact zr_iret hQ hx hb hr hlk dX9_against_75 hK hP hD hS (by omega) (by omega) ⟨by omega, by omega⟩ (⟨rfl, by have q := bg_val_congr (fun j hj => hs j (Nat.zero_le j) hj); rw [h1.2.2.2] at q; have q2 := h2.2.2.2; rw [← hnk] at q2; omega⟩)
        · exfalso; omega
      | succ t ih =>
        intro ls htn hs hl
        refine lv_iload_n hx hb dX9_against_28 rfl (lv_at hl 0 rfl) ?_
        refine zr_if_lt hx hb 74 ⟨by omega, by omega⟩ dX9_against_29 (by decide) (fun h_29 => ?_) (fun h_29 => ?_)
        · exfalso; omega
        · have b0 := h1.2.1 t (by omega)
          have b1 := h2.2.1 t (by omega)
          have hr1 := h1.1
          have hr2 := h2.1
          refine lv_aload_n hx hb dX9_against_32 rfl (lv_at hl 1 rfl) ?_
          refine va_get (D := D) (ci := 9) (v := .ref (w)) (C := RX9) (T := TX9) (N := 2) hx hb hts hin9 hown hK hP 0 rfl rfl 0 (by decide) q_f_RX9_9_Whole_words_I (fun _ h9 => h9) rfl dX9_against_33 ?_
          refine lv_iload_n hx hb dX9_against_36 rfl (lv_at hl 0 rfl) ?_
          refine zr_iald hx hb hK hP 1 0 rfl rfl (t) (by omega) (by omega) (by omega) dX9_against_37 ?_
          refine lv_aload_n hx hb dX9_against_38 rfl (lv_at hl 2 rfl) ?_
          refine va_get (D := D) (ci := 9) (v := .ref (v)) (C := RX9) (T := TX9) (N := 2) hx hb hts hin9 hown hK hP 2 rfl rfl 0 (by decide) q_f_RX9_9_Whole_words_I (fun _ h9 => h9) rfl dX9_against_39 ?_
          refine lv_iload_n hx hb dX9_against_42 rfl (lv_at hl 0 rfl) ?_
          refine zr_iald hx hb hK hP 3 0 rfl rfl (t) (by omega) (by omega) (by omega) dX9_against_43 ?_
          refine zr_icmp_eq hx hb 68 ⟨by omega, by omega⟩ ⟨by omega, by omega⟩ dX9_against_44 (by decide) (fun h_44 => ?_) (fun h_44 => ?_)
          · refine lv_iinc (v := iZ (((t : Nat) : Int) - 1)) (lv' := [(2, .int (iZ (((t : Nat) : Int) - 1))), (0, .ref (a)), (1, .ref (b))]) hx hb dX9_against_68 hl (k := 0) rfl (by rw [show ((t : Nat) : Int) - 1 = (((t + 1 : Nat) : Int) - 1) + (-1) by omega]; exact iZ_add _ _) (by decide) rfl (fun ls hl => ?_)
            refine lv_goto (tgt := 28) hx hb dX9_against_71 (by decide) ?_
            exact ih ls (by omega) (fun j hj hjn => by by_cases q : j = t; (subst q; exact h_44); exact hs j (by omega) hjn) (lv_sub hl [0, 1, 2] rfl)
          · refine lv_aload_n hx hb dX9_against_47 rfl (lv_at hl 1 rfl) ?_
            refine va_get (D := D) (ci := 9) (v := .ref (w)) (C := RX9) (T := TX9) (N := 2) hx hb hts hin9 hown hK hP 0 rfl rfl 0 (by decide) q_f_RX9_9_Whole_words_I (fun _ h9 => h9) rfl dX9_against_48 ?_
            refine lv_iload_n hx hb dX9_against_51 rfl (lv_at hl 0 rfl) ?_
            refine zr_iald hx hb hK hP 1 0 rfl rfl (t) (by omega) (by omega) (by omega) dX9_against_52 ?_
            refine lv_aload_n hx hb dX9_against_53 rfl (lv_at hl 2 rfl) ?_
            refine va_get (D := D) (ci := 9) (v := .ref (v)) (C := RX9) (T := TX9) (N := 2) hx hb hts hin9 hown hK hP 2 rfl rfl 0 (by decide) q_f_RX9_9_Whole_words_I (fun _ h9 => h9) rfl dX9_against_54 ?_
            refine lv_iload_n hx hb dX9_against_57 rfl (lv_at hl 0 rfl) ?_
            refine zr_iald hx hb hK hP 3 0 rfl rfl (t) (by omega) (by omega) (by omega) dX9_against_58 ?_
            refine zr_icmp_ge hx hb 66 ⟨by omega, by omega⟩ ⟨by omega, by omega⟩ dX9_against_59 (by decide) (fun h_59 => ?_) (fun h_59 => ?_)
            · refine lv_iconst (v := iZ 1) hx hb dX9_against_66 rfl ?_
              exact zr_iret hQ hx hb hr hlk dX9_against_67 hK hP hD hS (by omega) (by omega) ⟨by omega, by omega⟩ (⟨rfl, by have q := bg_lt_digit (hnk ▸ h2.2.1) h1.2.1 (show t < n by omega) (show e t < d t by omega) (fun j q1 q2 => (hs j (by omega) q2).symm); rw [h1.2.2.2] at q; have q2 := h2.2.2.2; rw [← hnk] at q2; omega⟩)
            · refine lv_iconst (v := iZ (-1)) hx hb dX9_against_62 rfl ?_
              refine lv_goto (tgt := 67) hx hb dX9_against_63 (by decide) ?_
              exact zr_iret hQ hx hb hr hlk dX9_against_67 hK hP hD hS (by omega) (by omega) ⟨by omega, by omega⟩ (⟨rfl, by have q := bg_lt_digit h1.2.1 (hnk ▸ h2.2.1) (show t < n by omega) h_59 (fun j q1 q2 => hs j (by omega) q2); rw [h1.2.2.2] at q; have q2 := h2.2.2.2; rw [← hnk] at q2; omega⟩)
    refine lv_aload_n hx hb dX9_against_21 rfl (lv_at hl 0 rfl) ?_
    refine va_get (D := D) (ci := 9) (v := .int (iZ (((n : Nat) : Int)))) (C := RX9) (T := TX9) (N := 2) hx hb hts hin9 hown hK hP 0 rfl rfl 1 (by decide) q_f_RX9_15_Whole_count_I (fun _ h9 => h9) rfl dX9_against_22 ?_
    refine lv_iconst (v := iZ 1) hx hb dX9_against_25 rfl ?_
    refine zr_isub hx hb dX9_against_26 ?_
    refine lv_istore_n (lv' := [(2, .int (iZ ((((n : Nat) : Int)) - (1)))), (0, .ref (a)), (1, .ref (b))]) hx hb dX9_against_27 rfl hl (by decide) rfl (fun ls hl => ?_)
    exact loop n ls (Nat.le_refl n) (fun j q1 q2 => absurd q1 (by omega)) (lv_sub hl [0, 1, 2] rfl)
  refine lv_aload_n hx hb dX9_against_0 rfl (lv_at hl 0 rfl) ?_
  refine va_get (D := D) (ci := 9) (v := .int (iZ (((n : Nat) : Int)))) (C := RX9) (T := TX9) (N := 2) hx hb hts hin9 hown hK hP 0 rfl rfl 1 (by decide) q_f_RX9_15_Whole_count_I (fun _ h9 => h9) rfl dX9_against_1 ?_
  refine lv_aload_n hx hb dX9_against_4 rfl (lv_at hl 1 rfl) ?_
  refine va_get (D := D) (ci := 9) (v := .int (iZ (((k : Nat) : Int)))) (C := RX9) (T := TX9) (N := 2) hx hb hts hin9 hown hK hP 2 rfl rfl 1 (by decide) q_f_RX9_15_Whole_count_I (fun _ h9 => h9) rfl dX9_against_5 ?_
  refine zr_icmp_eq hx hb 21 ⟨by omega, by omega⟩ ⟨by omega, by omega⟩ dX9_against_8 (by decide) (fun h_8 => ?_) (fun h_8 => ?_)
  · exact again (by omega) ls hl
  · refine lv_aload_n hx hb dX9_against_11 rfl (lv_at hl 0 rfl) ?_
    refine va_get (D := D) (ci := 9) (v := .int (iZ (((n : Nat) : Int)))) (C := RX9) (T := TX9) (N := 2) hx hb hts hin9 hown hK hP 0 rfl rfl 1 (by decide) q_f_RX9_15_Whole_count_I (fun _ h9 => h9) rfl dX9_against_12 ?_
    refine lv_aload_n hx hb dX9_against_15 rfl (lv_at hl 1 rfl) ?_
    refine va_get (D := D) (ci := 9) (v := .int (iZ (((k : Nat) : Int)))) (C := RX9) (T := TX9) (N := 2) hx hb hts hin9 hown hK hP 2 rfl rfl 1 (by decide) q_f_RX9_15_Whole_count_I (fun _ h9 => h9) rfl dX9_against_16 ?_
    refine zr_isub hx hb dX9_against_19 ?_
    exact zr_iret hQ hx hb hr hlk dX9_against_20 hK hP hD hS (by omega) (by omega) ⟨by omega, by omega⟩ (⟨rfl, by rcases Nat.lt_or_ge n k with q | q; (have := bg_lt_cnt h1.2.1 h2.2.1 h2.2.2.1 q; have := h1.2.2.2; have := h2.2.2.2; omega); (have := bg_lt_cnt h2.2.1 h1.2.1 h1.2.2.1 (show k < n by omega); have := h1.2.2.2; have := h2.2.2.2; omega)⟩)
