theorem bg_as_step {g : Nat → Int} {n : Nat} {r z : Int} (h : bg_val g n + r * bg_p n = z) : bg_val (zu g n (r % 2147483648)) (n + 1) + (r / 2147483648) * bg_p (n + 1) = z := by
  have := bg_step (x := 0) h
  rw [Int.add_zero, Int.zero_mul, Int.add_zero] at this
  exact this
theorem bg_as_end {g : Nat → Int} {n room : Nat} {r z : Int} (hn : n ≤ room) (hd : bg_dg g n) (hr : r = 0) (hc : r = 0 → bg_can g n) (h : bg_val g n + r * bg_p n = z) : bg_ok g n room z := by
  refine ⟨hn, hd, hc hr, ?_⟩
  rw [hr, Int.zero_mul, Int.add_zero] at h
  exact h
theorem bg_as_full {g : Nat → Int} {n : Nat} {r z : Int} (hd : bg_dg g n) (h0 : 0 ≤ r) (h : bg_val g n + r * bg_p n = z) (hz : z < bg_p n) : r = 0 := by
  have h1 := bg_val_nn hd
  have h2 := bg_p_pos n
  rcases (show r = 0 ∨ 1 ≤ r by omega) with q | q
  · exact q
  · have h3 : 1 * bg_p n ≤ r * bg_p n := Int.mul_le_mul_of_nonneg_right q (Int.le_of_lt h2)
    omega
/-- the digits of another number over the first k places -/
def bg_cp (e g : Nat → Int) (k : Nat) : Nat → Int := fun i => if i < k then e i else g i
theorem bg_cp_ok {e g : Nat → Int} {k r room : Nat} {v : Int} (h : bg_ok e k r v) (hk : k ≤ room) : bg_ok (fun i => if i < k then e i else g i) k room v := by
  have hs : ∀ i, i < k → (if i < k then e i else g i) = e i := fun i hi => if_pos hi
  refine ⟨hk, fun i hi => by dsimp only; rw [hs i hi]; exact h.2.1 i hi, fun h0 => by dsimp only; rw [hs (k - 1) (by omega)]; exact h.2.2.1 h0, ?_⟩
  rw [bg_val_congr hs]
  exact h.2.2.2
theorem bg_p_small : bg_p 1 = 2147483648 ∧ bg_p 2 = 4611686018427387904 ∧ bg_p 3 = 9903520314283042199192993792 := by decide
/-- the value of at most two words -/
theorem bg_two {g : Nat → Int} {n room : Nat} {v : Int} (h : bg_ok g n room v) (hn : n ≤ 2) : bg_at g n 1 * 2147483648 + bg_at g n 0 = v := by
  have e0 : bg_at g n 0 = bg_x g n 0 := bg_at_x g n 0
  have e1 : bg_at g n 1 = bg_x g n 1 := bg_at_x g n 1
  rw [e0, e1, ← h.2.2.2, ← bg_x_val g n 2 hn, bg_vs, bg_vs, bg_v0, bg_p_small.1, bg_p0]
  omega
set_option maxHeartbeats 4000000 in
set_option maxRecDepth 100000 in
/-- Whole.assign -/
theorem c_assign (l : Launch) (D : va_G) (cI cJ cE cF cR : ClassId) (a w room : Nat) (cnt : Int) (g0 : Nat → Int) (z : Int) (hz0 : 0 ≤ z ∧ z < 9223372036854775808) (hz : z < bg_p room) (hroom : room < 2147483648) : Cv l D (zty cI cJ cE cF cR) yX9_assign wsX9_assign (zRm 0 0) 0 0 [.ref (a), .long (lZ (z))] [(a, .inr (9, [.ref (w), .int (iZ (cnt))])), (w, aI cI (room) (g0))] (fun w1 => ∃ (g : Nat → Int) (n : Nat), w1 = [(a, .inr (9, [.ref (w), .int (iZ (((n : Nat) : Int)))])), (w, aI cI (room) (g))] ∧ bg_ok g n room z) := by
  unfold Cv
  refine zs (Qc := zQv D _ _) (cc := cX9_assign) (maxL := 5) (ret := none) (by decide) rfl (Nat.le_of_ble_eq_true rfl) ?_
  intro zp ze s zm below meth zc ls A args Q hQ hx hb hr hts hown hlk hml hnm hN hA hK hP hD hS hl
  have q_f_RX9_15_Whole_count_I := hts (.fieldLink RX9 15 "LimbSolver$Whole" "count" "I") (by decide +kernel)
  have hin9 : ∀ w ∈ wsX90, w ∈ wsX9_assign := by decide +kernel
  have q_f_RX9_9_Whole_words_I := hts (.fieldLink RX9 9 "LimbSolver$Whole" "words" "[I") (by decide +kernel)
  have q_constantLong_RX9_19_2147483647 := hts (.constantLong RX9 19 (2147483647)) (by decide +kernel)
  have hl : lv_has ls 5 [(0, .ref (a)), (1, .long (lZ (z)))] := hl
  have lp : ∀ (t : Nat) (n : Nat) (r : Int) (g : Nat → Int) (H : Heap) (locs : List Loc) (ls : Array Slot), (r < bg_p t) → (n ≤ room) → (bg_dg g n) → (0 ≤ r ∧ r ≤ z) → (r = 0 → bg_can g n) → (bg_val g n + r * bg_p n = z) →  va_P D vwCl [(a, .inr (9, [.ref (w), .int (iZ (((n : Nat) : Int)))])), (w, aI cI (room) (g))] H → va_D A [(a, .inr (9, [.ref (w), .int (iZ (((n : Nat) : Int)))])), (w, aI cI (room) (g))] → va_S A s.heap H locs → lv_has ls 5 [(3, .long (lZ (r))), (0, .ref (a)), (1, .long (lZ (z)))] → W zp l ze (zRm 0 0) s zm args below meth zc H locs 0 0 Q (F0 zm 7 ls []) := by
    intro t
    induction t with
    | zero =>
      intro n r g H locs ls ht hn hd hr0 hc hv hP hD hS hl
      refine lv_lload_n hx hb dX9_assign_7 rfl (lv_at hl 0 rfl) ?_
      refine lv_lconst (v := lZ 0) hx hb dX9_assign_8 rfl ?_
      refine zr_lcmp_le hx hb 58 ⟨by omega, by omega⟩ ⟨by omega, by omega⟩ dX9_assign_9 dX9_assign_10 (by decide) (fun h_9 => ?_) (fun h_9 => ?_)
      · exact zr_vret hQ hx hb hr hlk dX9_assign_58 hK hP hD hS (by omega) (by omega) (⟨g, n, rfl, bg_as_end hn hd (by rw [bg_p0] at ht; omega) hc hv⟩)
      · exfalso; rw [bg_p0] at ht; omega
    | succ t ih =>
      intro n r g H locs ls ht hn hd hr0 hc hv hP hD hS hl
      refine lv_lload_n hx hb dX9_assign_7 rfl (lv_at hl 0 rfl) ?_
      refine lv_lconst (v := lZ 0) hx hb dX9_assign_8 rfl ?_
      refine zr_lcmp_le hx hb 58 ⟨by omega, by omega⟩ ⟨by omega, by omega⟩ dX9_assign_9 dX9_assign_10 (by decide) (fun h_9 => ?_) (fun h_9 => ?_)
      · exact zr_vret hQ hx hb hr hlk dX9_assign_58 hK hP hD hS (by omega) (by omega) (⟨g, n, rfl, bg_as_end hn hd (by first | omega | exact bg_as_full hd hr0.1 hv (by have q : n = room := (by omega); rw [q]; exact hz)) hc hv⟩)
      · refine lv_aload_n hx hb dX9_assign_13 rfl (lv_at hl 1 rfl) ?_
        refine va_get (D := D) (ci := 9) (v := .int (iZ (((n : Nat) : Int)))) (C := RX9) (T := TX9) (N := 2) hx hb hts hin9 hown hK hP 0 rfl rfl 1 (by decide) q_f_RX9_15_Whole_count_I (fun _ h9 => h9) rfl dX9_assign_14 ?_
        refine lv_aload_n hx hb dX9_assign_17 rfl (lv_at hl 1 rfl) ?_
        refine va_get (D := D) (ci := 9) (v := .ref (w)) (C := RX9) (T := TX9) (N := 2) hx hb hts hin9 hown hK hP 0 rfl rfl 0 (by decide) q_f_RX9_9_Whole_words_I (fun _ h9 => h9) rfl dX9_assign_18 ?_
        refine zr_alen hx hb hK hP 1 0 rfl rfl dX9_assign_21 ?_
        refine zr_icmp_ge hx hb 58 ⟨by omega, by omega⟩ ⟨by omega, by omega⟩ dX9_assign_22 (by decide) (fun h_22 => ?_) (fun h_22 => ?_)
        · exact zr_vret hQ hx hb hr hlk dX9_assign_58 hK hP hD hS (by omega) (by omega) (⟨g, n, rfl, bg_as_end hn hd (by first | omega | exact bg_as_full hd hr0.1 hv (by have q : n = room := (by omega); rw [q]; exact hz)) hc hv⟩)
        · refine lv_aload_n hx hb dX9_assign_25 rfl (lv_at hl 1 rfl) ?_
          refine va_get (D := D) (ci := 9) (v := .ref (w)) (C := RX9) (T := TX9) (N := 2) hx hb hts hin9 hown hK hP 0 rfl rfl 0 (by decide) q_f_RX9_9_Whole_words_I (fun _ h9 => h9) rfl dX9_assign_26 ?_
          refine lv_aload_n hx hb dX9_assign_29 rfl (lv_at hl 1 rfl) ?_
          refine va_get (D := D) (ci := 9) (v := .int (iZ (((n : Nat) : Int)))) (C := RX9) (T := TX9) (N := 2) hx hb hts hin9 hown hK hP 0 rfl rfl 1 (by decide) q_f_RX9_15_Whole_count_I (fun _ h9 => h9) rfl dX9_assign_30 ?_
          refine lv_lload_n hx hb dX9_assign_33 rfl (lv_at hl 0 rfl) ?_
          refine zr_ldc2 hx hb 2147483647 (by decide) hown q_constantLong_RX9_19_2147483647 dX9_assign_34 ?_
          refine zr_land31 hx hb dX9_assign_37 ?_
          refine zr_l2i hx hb dX9_assign_38 ?_
          refine zr_iast hx hb hK hP hD hS 1 0 rfl rfl (n) (rfl) (by omega) (by omega) dX9_assign_39 (fun H locs hP hD hS => ?_)
          have hP : va_P D vwCl [(a, .inr (9, [.ref (w), .int (iZ (((n : Nat) : Int)))])), (w, aI cI (room) (zu (g) (n) ((r) % 2147483648)))] H := hP
          have hD : va_D A [(a, .inr (9, [.ref (w), .int (iZ (((n : Nat) : Int)))])), (w, aI cI (room) (zu (g) (n) ((r) % 2147483648)))] := hD
          refine lv_aload_n hx hb dX9_assign_40 rfl (lv_at hl 1 rfl) ?_
          refine lv_dup hx hb dX9_assign_41 rfl ?_
          refine va_get (D := D) (ci := 9) (v := .int (iZ (((n : Nat) : Int)))) (C := RX9) (T := TX9) (N := 2) hx hb hts hin9 hown hK hP 0 rfl rfl 1 (by decide) q_f_RX9_15_Whole_count_I (fun _ h9 => h9) rfl dX9_assign_42 ?_
          refine lv_iconst (v := iZ 1) hx hb dX9_assign_45 rfl ?_
          refine zr_iadd hx hb dX9_assign_46 ?_
          refine zr_eqi (((n + 1 : Nat) : Int)) (by omega) ?_
          refine va_put (D := D) (ci := 9) (v := .int (iZ (((n + 1 : Nat) : Int)))) (ty := tyX9 1) (C := RX9) (T := TX9) (N := 2) hx hb hts hin9 tyX9 tyX9_ok nmX9 hown hK hP hD hS 0 rfl rfl 1 (by decide) q_f_RX9_15_Whole_count_I (fun _ h9 => h9) rfl (tyX9_ok 1 (by decide)) rfl rfl (Nat.le_of_ble_eq_true rfl) dX9_assign_47 (fun H locs hP hD hS => ?_)
          have hP : va_P D vwCl [(a, .inr (9, [.ref (w), .int (iZ (((n + 1 : Nat) : Int)))])), (w, aI cI (room) (zu (g) (n) ((r) % 2147483648)))] H := hP
          have hD : va_D A [(a, .inr (9, [.ref (w), .int (iZ (((n + 1 : Nat) : Int)))])), (w, aI cI (room) (zu (g) (n) ((r) % 2147483648)))] := hD
          refine lv_lload_n hx hb dX9_assign_50 rfl (lv_at hl 0 rfl) ?_
          refine lv_bipush (v := iZ 31) hx hb dX9_assign_51 (by decide) ?_
          refine zr_lshr31 hx hb ⟨by omega, by omega⟩ dX9_assign_53 ?_
          refine lv_lstore_n (lv' := [(3, .long (lZ ((r) / 2147483648))), (0, .ref (a)), (1, .long (lZ (z)))]) hx hb dX9_assign_54 rfl hl (by decide) rfl (fun ls hl => ?_)
          refine lv_goto (tgt := 7) hx hb dX9_assign_55 (by decide) ?_
          exact ih (n + 1) _ _ H locs ls (by rw [bg_ps] at ht; omega) (by omega) (bg_zu_dgs hd (bg_mod _)) ⟨by omega, by omega⟩ (fun q _ => by rw [Nat.add_sub_cancel, zu_s]; omega) (bg_as_step hv) hP hD hS (lv_sub hl [0, 1, 2] rfl)
  refine lv_aload_n hx hb dX9_assign_0 rfl (lv_at hl 0 rfl) ?_
  refine lv_iconst (v := iZ 0) hx hb dX9_assign_1 rfl ?_
  refine va_put (D := D) (ci := 9) (v := .int (iZ (0))) (ty := tyX9 1) (C := RX9) (T := TX9) (N := 2) hx hb hts hin9 tyX9 tyX9_ok nmX9 hown hK hP hD hS 0 rfl rfl 1 (by decide) q_f_RX9_15_Whole_count_I (fun _ h9 => h9) rfl (tyX9_ok 1 (by decide)) rfl rfl (Nat.le_of_ble_eq_true rfl) dX9_assign_2 (fun H locs hP hD hS => ?_)
  have hP : va_P D vwCl [(a, .inr (9, [.ref (w), .int (iZ (0))])), (w, aI cI (room) (g0))] H := hP
  have hD : va_D A [(a, .inr (9, [.ref (w), .int (iZ (0))])), (w, aI cI (room) (g0))] := hD
  refine lv_lload_n hx hb dX9_assign_5 rfl (lv_at hl 1 rfl) ?_
  refine lv_lstore_n (lv' := [(3, .long (lZ (z))), (0, .ref (a)), (1, .long (lZ (z)))]) hx hb dX9_assign_6 rfl hl (by decide) rfl (fun ls hl => ?_)
  exact lp 3 0 z g0 H locs ls (by rw [bg_p_small.2.2]; omega) (Nat.zero_le _) (fun i hi => absurd hi (Nat.not_lt_zero i)) ⟨by omega, by omega⟩ (fun _ q => absurd q (Nat.lt_irrefl 0)) (by rw [bg_v0, bg_p0]; omega) hP hD hS (lv_sub hl [0, 1, 2] rfl)

set_option maxHeartbeats 4000000 in
set_option maxRecDepth 100000 in
/-- Whole.copyFrom -/
theorem c_copyFrom (l : Launch) (D : va_G) (cI cJ cE cF cR : ClassId) (a w b v room room2 k : Nat) (cnt : Int) (g0 e : Nat → Int) (v2 : Int) (h2 : bg_ok e k room2 v2) (hk : k ≤ room) (hroom : room < 2147483648) (hroom2 : room2 < 2147483648) : Cv l D (zty cI cJ cE cF cR) yX9_copyFrom wsX9_copyFrom (zRm 1 60) 0 0 [.ref (a), .ref (b)] [(a, .inr (9, [.ref (w), .int (iZ (cnt))])), (w, aI cI (room) (g0)), (b, .inr (9, [.ref (v), .int (iZ (((k : Nat) : Int)))])), (v, aI cI (room2) (e))] (fun w1 => ∃ (g : Nat → Int) (n : Nat), w1 = [(a, .inr (9, [.ref (w), .int (iZ (((n : Nat) : Int)))])), (w, aI cI (room) (g)), (b, .inr (9, [.ref (v), .int (iZ (((k : Nat) : Int)))])), (v, aI cI (room2) (e))] ∧ bg_ok g n room v2) := by
  unfold Cv
  refine zs (Qc := zQv D _ _) (cc := cX9_copyFrom) (maxL := 2) (ret := none) (by decide) rfl (Nat.le_of_ble_eq_true rfl) ?_
  intro zp ze s zm below meth zc ls A args Q hQ hx hb hr hts hown hlk hml hnm hN hA hK hP hD hS hl
  have q_f_RX9_15_Whole_count_I := hts (.fieldLink RX9 15 "LimbSolver$Whole" "count" "I") (by decide +kernel)
  have hin9 : ∀ w ∈ wsX90, w ∈ wsX9_copyFrom := by decide +kernel
  have q_f_RX9_9_Whole_words_I := hts (.fieldLink RX9 9 "LimbSolver$Whole" "words" "[I") (by decide +kernel)
  have q_methodLink_RX9_21_arraycopyName := hts (.methodLink RX9 21 arraycopyName) (by decide +kernel)
  have q_native_arraycopyName := hts (.native arraycopyName) (by decide +kernel)
  have q_static_arraycopyName := hts (.static arraycopyName) (by decide +kernel)
  have q_initialized_java_lang_System := hts (.initialized "java/lang/System") (by decide +kernel)
  have hl : lv_has ls 2 [(0, .ref (a)), (1, .ref (b))] := hl
  have hr2 := h2.1
  refine lv_aload_n hx hb dX9_copyFrom_0 rfl (lv_at hl 1 rfl) ?_
  refine va_get (D := D) (ci := 9) (v := .int (iZ (((k : Nat) : Int)))) (C := RX9) (T := TX9) (N := 2) hx hb hts hin9 hown hK hP 2 rfl rfl 1 (by decide) q_f_RX9_15_Whole_count_I (fun _ h9 => h9) rfl dX9_copyFrom_1 ?_
  refine lv_aload_n hx hb dX9_copyFrom_4 rfl (lv_at hl 0 rfl) ?_
  refine va_get (D := D) (ci := 9) (v := .ref (w)) (C := RX9) (T := TX9) (N := 2) hx hb hts hin9 hown hK hP 0 rfl rfl 0 (by decide) q_f_RX9_9_Whole_words_I (fun _ h9 => h9) rfl dX9_copyFrom_5 ?_
  refine zr_alen hx hb hK hP 1 0 rfl rfl dX9_copyFrom_8 ?_
  refine zr_icmp_le hx hb 13 ⟨by omega, by omega⟩ ⟨by omega, by omega⟩ dX9_copyFrom_9 (by decide) (fun h_9 => ?_) (fun h_9 => ?_)
  · refine lv_aload_n hx hb dX9_copyFrom_13 rfl (lv_at hl 1 rfl) ?_
    refine va_get (D := D) (ci := 9) (v := .ref (v)) (C := RX9) (T := TX9) (N := 2) hx hb hts hin9 hown hK hP 2 rfl rfl 0 (by decide) q_f_RX9_9_Whole_words_I (fun _ h9 => h9) rfl dX9_copyFrom_14 ?_
    refine lv_iconst (v := iZ 0) hx hb dX9_copyFrom_17 rfl ?_
    refine lv_aload_n hx hb dX9_copyFrom_18 rfl (lv_at hl 0 rfl) ?_
    refine va_get (D := D) (ci := 9) (v := .ref (w)) (C := RX9) (T := TX9) (N := 2) hx hb hts hin9 hown hK hP 0 rfl rfl 0 (by decide) q_f_RX9_9_Whole_words_I (fun _ h9 => h9) rfl dX9_copyFrom_19 ?_
    refine lv_iconst (v := iZ 0) hx hb dX9_copyFrom_22 rfl ?_
    refine lv_aload_n hx hb dX9_copyFrom_23 rfl (lv_at hl 1 rfl) ?_
    refine va_get (D := D) (ci := 9) (v := .int (iZ (((k : Nat) : Int)))) (C := RX9) (T := TX9) (N := 2) hx hb hts hin9 hown hK hP 2 rfl rfl 1 (by decide) q_f_RX9_15_Whole_count_I (fun _ h9 => h9) rfl dX9_copyFrom_24 ?_
    refine zr_copyi (k := k) hx hb (hml.trans hl.1.symm) hown q_methodLink_RX9_21_arraycopyName q_native_arraycopyName q_static_arraycopyName q_initialized_java_lang_System hK hP hD hS 3 1 0 rfl rfl rfl (h2.1) (hk) (hroom2) (Nat.le_of_ble_eq_true rfl) (by decide) dX9_copyFrom_27 (fun H locs hP hD hS => ?_)
    have hP : va_P D vwCl [(a, .inr (9, [.ref (w), .int (iZ (cnt))])), (w, aI cI (room) (fun i => if i < k then (e) i else (g0) i)), (b, .inr (9, [.ref (v), .int (iZ (((k : Nat) : Int)))])), (v, aI cI (room2) (e))] H := hP
    have hD : va_D A [(a, .inr (9, [.ref (w), .int (iZ (cnt))])), (w, aI cI (room) (fun i => if i < k then (e) i else (g0) i)), (b, .inr (9, [.ref (v), .int (iZ (((k : Nat) : Int)))])), (v, aI cI (room2) (e))] := hD
    refine lv_aload_n hx hb dX9_copyFrom_30 rfl (lv_at hl 0 rfl) ?_
    refine lv_aload_n hx hb dX9_copyFrom_31 rfl (lv_at hl 1 rfl) ?_
    refine va_get (D := D) (ci := 9) (v := .int (iZ (((k : Nat) : Int)))) (C := RX9) (T := TX9) (N := 2) hx hb hts hin9 hown hK hP 2 rfl rfl 1 (by decide) q_f_RX9_15_Whole_count_I (fun _ h9 => h9) rfl dX9_copyFrom_32 ?_
    refine va_put (D := D) (ci := 9) (v := .int (iZ (((k : Nat) : Int)))) (ty := tyX9 1) (C := RX9) (T := TX9) (N := 2) hx hb hts hin9 tyX9 tyX9_ok nmX9 hown hK hP hD hS 0 rfl rfl 1 (by decide) q_f_RX9_15_Whole_count_I (fun _ h9 => h9) rfl (tyX9_ok 1 (by decide)) rfl rfl (Nat.le_of_ble_eq_true rfl) dX9_copyFrom_35 (fun H locs hP hD hS => ?_)
    have hP : va_P D vwCl [(a, .inr (9, [.ref (w), .int (iZ (((k : Nat) : Int)))])), (w, aI cI (room) (fun i => if i < k then (e) i else (g0) i)), (b, .inr (9, [.ref (v), .int (iZ (((k : Nat) : Int)))])), (v, aI cI (room2) (e))] H := hP
    have hD : va_D A [(a, .inr (9, [.ref (w), .int (iZ (((k : Nat) : Int)))])), (w, aI cI (room) (fun i => if i < k then (e) i else (g0) i)), (b, .inr (9, [.ref (v), .int (iZ (((k : Nat) : Int)))])), (v, aI cI (room2) (e))] := hD
    exact zr_vret hQ hx hb hr hlk dX9_copyFrom_38 hK hP hD hS (by omega) (by omega) (⟨_, k, rfl, bg_cp_ok h2 hk⟩)
  · exfalso; omega

set_option maxHeartbeats 4000000 in
set_option maxRecDepth 100000 in
/-- Whole.copyFrom of itself -/
theorem c_copySelf (l : Launch) (D : va_G) (cI cJ cE cF cR : ClassId) (a w room k : Nat) (e : Nat → Int) (v2 : Int) (h2 : bg_ok e k room v2) (hroom : room < 2147483648) : Cv l D (zty cI cJ cE cF cR) yX9_copyFrom wsX9_copyFrom (zRm 1 60) 0 0 [.ref (a), .ref (a)] [(a, .inr (9, [.ref (w), .int (iZ (((k : Nat) : Int)))])), (w, aI cI (room) (e))] (fun w1 => ∃ (g : Nat → Int) (n : Nat), w1 = [(a, .inr (9, [.ref (w), .int (iZ (((n : Nat) : Int)))])), (w, aI cI (room) (g))] ∧ bg_ok g n room v2) := by
  unfold Cv
  refine zs (Qc := zQv D _ _) (cc := cX9_copyFrom) (maxL := 2) (ret := none) (by decide) rfl (Nat.le_of_ble_eq_true rfl) ?_
  intro zp ze s zm below meth zc ls A args Q hQ hx hb hr hts hown hlk hml hnm hN hA hK hP hD hS hl
  have q_f_RX9_15_Whole_count_I := hts (.fieldLink RX9 15 "LimbSolver$Whole" "count" "I") (by decide +kernel)
  have hin9 : ∀ w ∈ wsX90, w ∈ wsX9_copyFrom := by decide +kernel
  have q_f_RX9_9_Whole_words_I := hts (.fieldLink RX9 9 "LimbSolver$Whole" "words" "[I") (by decide +kernel)
  have q_methodLink_RX9_21_arraycopyName := hts (.methodLink RX9 21 arraycopyName) (by decide +kernel)
  have q_native_arraycopyName := hts (.native arraycopyName) (by decide +kernel)
  have q_static_arraycopyName := hts (.static arraycopyName) (by decide +kernel)
  have q_initialized_java_lang_System := hts (.initialized "java/lang/System") (by decide +kernel)
  have hl : lv_has ls 2 [(0, .ref (a)), (1, .ref (a))] := hl
  have hr2 := h2.1
  refine lv_aload_n hx hb dX9_copyFrom_0 rfl (lv_at hl 1 rfl) ?_
  refine va_get (D := D) (ci := 9) (v := .int (iZ (((k : Nat) : Int)))) (C := RX9) (T := TX9) (N := 2) hx hb hts hin9 hown hK hP 0 rfl rfl 1 (by decide) q_f_RX9_15_Whole_count_I (fun _ h9 => h9) rfl dX9_copyFrom_1 ?_
  refine lv_aload_n hx hb dX9_copyFrom_4 rfl (lv_at hl 0 rfl) ?_
  refine va_get (D := D) (ci := 9) (v := .ref (w)) (C := RX9) (T := TX9) (N := 2) hx hb hts hin9 hown hK hP 0 rfl rfl 0 (by decide) q_f_RX9_9_Whole_words_I (fun _ h9 => h9) rfl dX9_copyFrom_5 ?_
  refine zr_alen hx hb hK hP 1 0 rfl rfl dX9_copyFrom_8 ?_
  refine zr_icmp_le hx hb 13 ⟨by omega, by omega⟩ ⟨by omega, by omega⟩ dX9_copyFrom_9 (by decide) (fun h_9 => ?_) (fun h_9 => ?_)
  · refine lv_aload_n hx hb dX9_copyFrom_13 rfl (lv_at hl 1 rfl) ?_
    refine va_get (D := D) (ci := 9) (v := .ref (w)) (C := RX9) (T := TX9) (N := 2) hx hb hts hin9 hown hK hP 0 rfl rfl 0 (by decide) q_f_RX9_9_Whole_words_I (fun _ h9 => h9) rfl dX9_copyFrom_14 ?_
    refine lv_iconst (v := iZ 0) hx hb dX9_copyFrom_17 rfl ?_
    refine lv_aload_n hx hb dX9_copyFrom_18 rfl (lv_at hl 0 rfl) ?_
    refine va_get (D := D) (ci := 9) (v := .ref (w)) (C := RX9) (T := TX9) (N := 2) hx hb hts hin9 hown hK hP 0 rfl rfl 0 (by decide) q_f_RX9_9_Whole_words_I (fun _ h9 => h9) rfl dX9_copyFrom_19 ?_
    refine lv_iconst (v := iZ 0) hx hb dX9_copyFrom_22 rfl ?_
    refine lv_aload_n hx hb dX9_copyFrom_23 rfl (lv_at hl 1 rfl) ?_
    refine va_get (D := D) (ci := 9) (v := .int (iZ (((k : Nat) : Int)))) (C := RX9) (T := TX9) (N := 2) hx hb hts hin9 hown hK hP 0 rfl rfl 1 (by decide) q_f_RX9_15_Whole_count_I (fun _ h9 => h9) rfl dX9_copyFrom_24 ?_
    refine zr_copyi (k := k) hx hb (hml.trans hl.1.symm) hown q_methodLink_RX9_21_arraycopyName q_native_arraycopyName q_static_arraycopyName q_initialized_java_lang_System hK hP hD hS 1 1 0 rfl rfl rfl (h2.1) (h2.1) (hroom) (Nat.le_of_ble_eq_true rfl) (by decide) dX9_copyFrom_27 (fun H locs hP hD hS => ?_)
    have hP : va_P D vwCl [(a, .inr (9, [.ref (w), .int (iZ (((k : Nat) : Int)))])), (w, aI cI (room) (fun i => if i < k then (e) i else (e) i))] H := hP
    have hD : va_D A [(a, .inr (9, [.ref (w), .int (iZ (((k : Nat) : Int)))])), (w, aI cI (room) (fun i => if i < k then (e) i else (e) i))] := hD
    refine lv_aload_n hx hb dX9_copyFrom_30 rfl (lv_at hl 0 rfl) ?_
    refine lv_aload_n hx hb dX9_copyFrom_31 rfl (lv_at hl 1 rfl) ?_
    refine va_get (D := D) (ci := 9) (v := .int (iZ (((k : Nat) : Int)))) (C := RX9) (T := TX9) (N := 2) hx hb hts hin9 hown hK hP 0 rfl rfl 1 (by decide) q_f_RX9_15_Whole_count_I (fun _ h9 => h9) rfl dX9_copyFrom_32 ?_
    refine va_put (D := D) (ci := 9) (v := .int (iZ (((k : Nat) : Int)))) (ty := tyX9 1) (C := RX9) (T := TX9) (N := 2) hx hb hts hin9 tyX9 tyX9_ok nmX9 hown hK hP hD hS 0 rfl rfl 1 (by decide) q_f_RX9_15_Whole_count_I (fun _ h9 => h9) rfl (tyX9_ok 1 (by decide)) rfl rfl (Nat.le_of_ble_eq_true rfl) dX9_copyFrom_35 (fun H locs hP hD hS => ?_)
    have hP : va_P D vwCl [(a, .inr (9, [.ref (w), .int (iZ (((k : Nat) : Int)))])), (w, aI cI (room) (fun i => if i < k then (e) i else (e) i))] H := hP
    have hD : va_D A [(a, .inr (9, [.ref (w), .int (iZ (((k : Nat) : Int)))])), (w, aI cI (room) (fun i => if i < k then (e) i else (e) i))] := hD
    exact zr_vret hQ hx hb hr hlk dX9_copyFrom_38 hK hP hD hS (by omega) (by omega) (⟨_, k, rfl, bg_cp_ok h2 h2.1⟩)
  · exfalso; omega

set_option maxHeartbeats 4000000 in
set_option maxRecDepth 100000 in
/-- Whole.asLong -/
theorem c_asLong (l : Launch) (D : va_G) (cI cJ cE cF cR : ClassId) (a w room n : Nat) (d : Nat → Int) (v1 : Int) (h1 : bg_ok d n room v1) (hn : n ≤ 2) (hroom : room < 2147483648) : Cl l D (zty cI cJ cE cF cR) yX9_asLong wsX9_asLong (zRm 1 22) 0 0 [.ref (a)] [(a, .inr (9, [.ref (w), .int (iZ (((n : Nat) : Int)))])), (w, aI cI (room) (d))] (fun r w1 => w1 = [(a, .inr (9, [.ref (w), .int (iZ (((n : Nat) : Int)))])), (w, aI cI (room) (d))] ∧ r = v1) := by
  unfold Cl
  refine zs (Qc := zQl D _ _) (cc := cX9_asLong) (maxL := 1) (ret := (some .long)) (by decide) rfl (Nat.le_of_ble_eq_true rfl) ?_
  intro zp ze s zm below meth zc ls A args Q hQ hx hb hr hts hown hlk hml hnm hN hA hK hP hD hS hl
  have hl : lv_has ls 1 [(0, .ref (a))] := hl
  refine lv_aload_n hx hb dX9_asLong_0 rfl (lv_at hl 0 rfl) ?_
  refine lv_iconst (v := iZ 1) hx hb dX9_asLong_1 rfl ?_
  refine zc_Vi (As := [.int (iZ (1))]) (rest := []) (wr := []) ⟨hx, hb, hml, hown, hts⟩ (c_wordAt l D cI cJ cE cF cR a w room n d 1 (by decide) h1.1 hroom h1.2.1) (cwV 1 hts gX9_asLong_X9_wordAt rfl rfl rfl (by decide +kernel) ⟨Nat.le_of_ble_eq_true rfl, Nat.le_of_ble_eq_true rfl⟩) hN hK hP hD hS hA [0, 1] [] rfl rfl (by decide) (by decide) (by decide) (q0 := 0) (ci := 9) rfl rfl rfl rfl hl.1 (Nat.le_of_ble_eq_true rfl) dX9_asLong_2 ⟨by decide, by decide⟩ (fun z2 w1 H locs hz2 hp hP hD hS => ?_)
  obtain ⟨hw1, hx0⟩ := hp
  subst hw1
  subst hx0
  have hP := hP.sub (ws' := [(a, .inr (9, [.ref (w), .int (iZ (((n : Nat) : Int)))])), (w, aI cI (room) (d))]) [0, 1] rfl
  have hD := hD.sub (ws' := [(a, .inr (9, [.ref (w), .int (iZ (((n : Nat) : Int)))])), (w, aI cI (room) (d))]) [0, 1] (by decide) rfl
  have b1 := bg_at_dg h1.2.1 1
  have b0 := bg_at_dg h1.2.1 0
  have b1 : 0 ≤ bg_at d n 1 ∧ bg_at d n 1 < 2147483648 := b1
  have b0 : 0 ≤ bg_at d n 0 ∧ bg_at d n 0 < 2147483648 := b0
  refine zr_i2l hx hb ⟨by omega, by omega⟩ dX9_asLong_5 ?_
  refine lv_bipush (v := iZ 31) hx hb dX9_asLong_6 (by decide) ?_
  refine zr_lshl31 hx hb dX9_asLong_8 ?_
  refine lv_aload_n hx hb dX9_asLong_9 rfl (lv_at hl 0 rfl) ?_
  refine lv_iconst (v := iZ 0) hx hb dX9_asLong_10 rfl ?_
  refine zc_Vi (As := [.int (iZ (0))]) (rest := [.long (lZ ((bg_at d n 1) * 2147483648))]) (wr := []) ⟨hx, hb, hml, hown, hts⟩ (c_wordAt l D cI cJ cE cF cR a w room n d 0 (by decide) h1.1 hroom h1.2.1) (cwV 1 hts gX9_asLong_X9_wordAt rfl rfl rfl (by decide +kernel) ⟨Nat.le_of_ble_eq_true rfl, Nat.le_of_ble_eq_true rfl⟩) hN hK hP hD hS hA [0, 1] [] rfl rfl (by decide) (by decide) (by decide) (q0 := 0) (ci := 9) rfl rfl rfl rfl hl.1 (Nat.le_of_ble_eq_true rfl) dX9_asLong_11 ⟨by decide, by decide⟩ (fun z11 w1 H locs hz11 hp hP hD hS => ?_)
  obtain ⟨hw1, hx0⟩ := hp
  subst hw1
  subst hx0
  have hP := hP.sub (ws' := [(a, .inr (9, [.ref (w), .int (iZ (((n : Nat) : Int)))])), (w, aI cI (room) (d))]) [0, 1] rfl
  have hD := hD.sub (ws' := [(a, .inr (9, [.ref (w), .int (iZ (((n : Nat) : Int)))])), (w, aI cI (room) (d))]) [0, 1] (by decide) rfl
  refine zr_i2l hx hb ⟨by omega, by omega⟩ dX9_asLong_14 ?_
  refine zr_lor31 hx hb (by omega) (by omega) dX9_asLong_15 ?_
  exact zr_lret hQ hx hb hr hlk dX9_asLong_16 hK hP hD hS (by omega) (by omega) ⟨by omega, by omega⟩ (⟨rfl, bg_two h1 hn⟩)
