set_option maxHeartbeats 4000000 in
set_option maxRecDepth 100000 in
/-- Whole.clear -/
theorem c_clear (l : Launch) (D : va_G) (cI cJ cE cF cR : ClassId) (a w : Nat) (cnt : Int) : Cv l D (zty cI cJ cE cF cR) yX9_clear wsX9_clear (zRm 0 0) 0 0 [.ref (a)] [(a, .inr (9, [.ref (w), .int (iZ (cnt))]))] (fun w1 => w1 = [(a, .inr (9, [.ref w, .int (iZ 0)]))]) := by
  unfold Cv
  refine zs (Qc := zQv D _ _) (cc := cX9_clear) (maxL := 1) (ret := none) (by decide) rfl (Nat.le_of_ble_eq_true rfl) ?_
  intro zp ze s zm below meth zc ls A args Q hQ hx hb hr hts hown hlk hml hnm hN hA hK hP hD hS hl
  have q_f_RX9_15_Whole_count_I := hts (.fieldLink RX9 15 "LimbSolver$Whole" "count" "I") (by decide +kernel)
  have hin9 : ∀ w ∈ wsX90, w ∈ wsX9_clear := by decide +kernel
  have hl : lv_has ls 1 [(0, .ref (a))] := hl
  refine lv_aload_n hx hb dX9_clear_0 rfl (lv_at hl 0 rfl) ?_
  refine lv_iconst (v := iZ 0) hx hb dX9_clear_1 rfl ?_
  refine va_put (D := D) (ci := 9) (v := .int (iZ (0))) (ty := tyX9 1) (C := RX9) (T := TX9) (N := 2) hx hb hts hin9 tyX9 tyX9_ok nmX9 hown hK hP hD hS 0 rfl rfl 1 (by decide) q_f_RX9_15_Whole_count_I (fun _ h9 => h9) rfl (tyX9_ok 1 (by decide)) rfl rfl (Nat.le_of_ble_eq_true rfl) dX9_clear_2 (fun H locs hP hD hS => ?_)
  have hP : va_P D vwCl [(a, .inr (9, [.ref (w), .int (iZ (0))]))] H := hP
  have hD : va_D A [(a, .inr (9, [.ref (w), .int (iZ (0))]))] := hD
  exact zr_vret hQ hx hb hr hlk dX9_clear_5 hK hP hD hS (by omega) (by omega) (rfl)

set_option maxHeartbeats 4000000 in
set_option maxRecDepth 100000 in
/-- Whole.wordAt: the word, 0 where there is none -/
theorem c_wordAt (l : Launch) (D : va_G) (cI cJ cE cF cR : ClassId) (a w room n : Nat) (d : Nat → Int) (z : Int) (hz : iR z) (hn : n ≤ room) (hroom : room < 2147483648) (hd : bg_dg d n) : Ci l D (zty cI cJ cE cF cR) yX9_wordAt wsX9_wordAt (zRm 0 0) 0 0 [.ref (a), .int (iZ (z))] [(a, .inr (9, [.ref (w), .int (iZ (((n : Nat) : Int)))])), (w, aI cI (room) (d))] (fun r w1 => w1 = [(a, .inr (9, [.ref (w), .int (iZ (((n : Nat) : Int)))])), (w, aI cI (room) (d))] ∧ r = bg_at d n z) := by
  unfold Ci
  refine zs (Qc := zQi D _ _) (cc := cX9_wordAt) (maxL := 2) (ret := (some .int)) (by decide) rfl (Nat.le_of_ble_eq_true rfl) ?_
  intro zp ze s zm below meth zc ls A args Q hQ hx hb hr hts hown hlk hml hnm hN hA hK hP hD hS hl
  have q_f_RX9_15_Whole_count_I := hts (.fieldLink RX9 15 "LimbSolver$Whole" "count" "I") (by decide +kernel)
  have hin9 : ∀ w ∈ wsX90, w ∈ wsX9_wordAt := by decide +kernel
  have q_f_RX9_9_Whole_words_I := hts (.fieldLink RX9 9 "LimbSolver$Whole" "words" "[I") (by decide +kernel)
  have hl : lv_has ls 2 [(0, .ref (a)), (1, .int (iZ (z)))] := hl
  have hdr : ∀ i : Nat, i < n → iR (d i) := fun i hi => ⟨by have := (hd i hi).1; omega, by have := (hd i hi).2; omega⟩
  refine lv_iload_n hx hb dX9_wordAt_0 rfl (lv_at hl 1 rfl) ?_
  refine zr_if_lt hx hb 21 ⟨by omega, by omega⟩ dX9_wordAt_1 (by decide) (fun h_1 => ?_) (fun h_1 => ?_)
  · refine lv_iconst (v := iZ 0) hx hb dX9_wordAt_21 rfl ?_
    exact zr_iret hQ hx hb hr hlk dX9_wordAt_22 hK hP hD hS (by omega) (by omega) (by first | exact hdr _ (by omega) | decide) (⟨rfl, by unfold bg_at; rw [if_neg (by omega)]⟩)
  · refine lv_iload_n hx hb dX9_wordAt_4 rfl (lv_at hl 1 rfl) ?_
    refine lv_aload_n hx hb dX9_wordAt_5 rfl (lv_at hl 0 rfl) ?_
    refine va_get (D := D) (ci := 9) (v := .int (iZ (((n : Nat) : Int)))) (C := RX9) (T := TX9) (N := 2) hx hb hts hin9 hown hK hP 0 rfl rfl 1 (by decide) q_f_RX9_15_Whole_count_I (fun _ h9 => h9) rfl dX9_wordAt_6 ?_
    refine zr_icmp_ge hx hb 21 ⟨by omega, by omega⟩ ⟨by omega, by omega⟩ dX9_wordAt_9 (by decide) (fun h_9 => ?_) (fun h_9 => ?_)
    · refine lv_iconst (v := iZ 0) hx hb dX9_wordAt_21 rfl ?_
      exact zr_iret hQ hx hb hr hlk dX9_wordAt_22 hK hP hD hS (by omega) (by omega) (by first | exact hdr _ (by omega) | decide) (⟨rfl, by unfold bg_at; rw [if_neg (by omega)]⟩)
    · refine lv_aload_n hx hb dX9_wordAt_12 rfl (lv_at hl 0 rfl) ?_
      refine va_get (D := D) (ci := 9) (v := .ref (w)) (C := RX9) (T := TX9) (N := 2) hx hb hts hin9 hown hK hP 0 rfl rfl 0 (by decide) q_f_RX9_9_Whole_words_I (fun _ h9 => h9) rfl dX9_wordAt_13 ?_
      refine lv_iload_n hx hb dX9_wordAt_16 rfl (lv_at hl 1 rfl) ?_
      refine zr_iald hx hb hK hP 1 0 rfl rfl (z.toNat) (by omega) (by omega) (by omega) dX9_wordAt_17 ?_
      refine lv_goto (tgt := 22) hx hb dX9_wordAt_18 (by decide) ?_
      exact zr_iret hQ hx hb hr hlk dX9_wordAt_22 hK hP hD hS (by omega) (by omega) (by first | exact hdr _ (by omega) | decide) (⟨rfl, by unfold bg_at; rw [if_pos (by omega)]⟩)

set_option maxHeartbeats 4000000 in
set_option maxRecDepth 100000 in
/-- Whole.isOne -/
theorem c_isOne (l : Launch) (D : va_G) (cI cJ cE cF cR : ClassId) (a w room n : Nat) (d : Nat → Int) (hn : n ≤ room) (hroom : room < 2147483648) (hd : bg_dg d n) : Ci l D (zty cI cJ cE cF cR) yX9_isOne wsX9_isOne (zRm 0 0) 0 0 [.ref (a)] [(a, .inr (9, [.ref (w), .int (iZ (((n : Nat) : Int)))])), (w, aI cI (room) (d))] (fun r w1 => w1 = [(a, .inr (9, [.ref (w), .int (iZ (((n : Nat) : Int)))])), (w, aI cI (room) (d))] ∧ r = if (n = 1 ∧ d 0 = 1) then 1 else 0) := by
  unfold Ci
  refine zs (Qc := zQi D _ _) (cc := cX9_isOne) (maxL := 1) (ret := (some .boolean)) (by decide) rfl (Nat.le_of_ble_eq_true rfl) ?_
  intro zp ze s zm below meth zc ls A args Q hQ hx hb hr hts hown hlk hml hnm hN hA hK hP hD hS hl
  have q_f_RX9_15_Whole_count_I := hts (.fieldLink RX9 15 "LimbSolver$Whole" "count" "I") (by decide +kernel)
  have hin9 : ∀ w ∈ wsX90, w ∈ wsX9_isOne := by decide +kernel
  have q_f_RX9_9_Whole_words_I := hts (.fieldLink RX9 9 "LimbSolver$Whole" "words" "[I") (by decide +kernel)
  have hl : lv_has ls 1 [(0, .ref (a))] := hl
  refine lv_aload_n hx hb dX9_isOne_0 rfl (lv_at hl 0 rfl) ?_
  refine va_get (D := D) (ci := 9) (v := .int (iZ (((n : Nat) : Int)))) (C := RX9) (T := TX9) (N := 2) hx hb hts hin9 hown hK hP 0 rfl rfl 1 (by decide) q_f_RX9_15_Whole_count_I (fun _ h9 => h9) rfl dX9_isOne_1 ?_
  refine lv_iconst (v := iZ 1) hx hb dX9_isOne_4 rfl ?_
  refine zr_icmp_ne hx hb 22 ⟨by omega, by omega⟩ ⟨by omega, by omega⟩ dX9_isOne_5 (by decide) (fun h_5 => ?_) (fun h_5 => ?_)
  · refine lv_iconst (v := iZ 0) hx hb dX9_isOne_22 rfl ?_
    exact zr_zret hQ hx hb hr hlk dX9_isOne_23 hK hP hD hS (by omega) (by omega) (by omega) (⟨rfl, by rw [if_neg (by omega)]⟩)
  · refine lv_aload_n hx hb dX9_isOne_8 rfl (lv_at hl 0 rfl) ?_
    refine va_get (D := D) (ci := 9) (v := .ref (w)) (C := RX9) (T := TX9) (N := 2) hx hb hts hin9 hown hK hP 0 rfl rfl 0 (by decide) q_f_RX9_9_Whole_words_I (fun _ h9 => h9) rfl dX9_isOne_9 ?_
    refine lv_iconst (v := iZ 0) hx hb dX9_isOne_12 rfl ?_
    refine zr_iald hx hb hK hP 1 0 rfl rfl (0) (by omega) (by omega) (by omega) dX9_isOne_13 ?_
    refine lv_iconst (v := iZ 1) hx hb dX9_isOne_14 rfl ?_
    refine zr_icmp_ne hx hb 22 ⟨by have := (hd 0 (by omega)).1; omega, by have := (hd 0 (by omega)).2; omega⟩ ⟨by omega, by omega⟩ dX9_isOne_15 (by decide) (fun h_15 => ?_) (fun h_15 => ?_)
    · refine lv_iconst (v := iZ 0) hx hb dX9_isOne_22 rfl ?_
      exact zr_zret hQ hx hb hr hlk dX9_isOne_23 hK hP hD hS (by omega) (by omega) (by omega) (⟨rfl, by rw [if_neg (by omega)]⟩)
    · refine lv_iconst (v := iZ 1) hx hb dX9_isOne_18 rfl ?_
      refine lv_goto (tgt := 23) hx hb dX9_isOne_19 (by decide) ?_
      exact zr_zret hQ hx hb hr hlk dX9_isOne_23 hK hP hD hS (by omega) (by omega) (by omega) (⟨rfl, by rw [if_pos ⟨by omega, by omega⟩]⟩)

set_option maxHeartbeats 4000000 in
set_option maxRecDepth 100000 in
/-- Whole.trim -/
theorem c_trim (l : Launch) (D : va_G) (cI cJ cE cF cR : ClassId) (a w room n : Nat) (cnt : Int) (d : Nat → Int) (hn : n ≤ room) (hroom : room < 2147483648) (hd : bg_dg d n) : Cv l D (zty cI cJ cE cF cR) yX9_trim wsX9_trim (zRm 0 0) 0 0 [.ref (a), .int (iZ (((n : Nat) : Int)))] [(a, .inr (9, [.ref (w), .int (iZ (cnt))])), (w, aI cI (room) (d))] (fun w1 => w1 = [(a, .inr (9, [.ref w, .int (iZ ((bg_trim d n : Nat) : Int))])), (w, aI cI room d)]) := by
  unfold Cv
  refine zs (Qc := zQv D _ _) (cc := cX9_trim) (maxL := 3) (ret := none) (by decide) rfl (Nat.le_of_ble_eq_true rfl) ?_
  intro zp ze s zm below meth zc ls A args Q hQ hx hb hr hts hown hlk hml hnm hN hA hK hP hD hS hl
  have q_f_RX9_15_Whole_count_I := hts (.fieldLink RX9 15 "LimbSolver$Whole" "count" "I") (by decide +kernel)
  have hin9 : ∀ w ∈ wsX90, w ∈ wsX9_trim := by decide +kernel
  have q_f_RX9_9_Whole_words_I := hts (.fieldLink RX9 9 "LimbSolver$Whole" "words" "[I") (by decide +kernel)
  have hl : lv_has ls 3 [(0, .ref (a)), (1, .int (iZ (((n : Nat) : Int))))] := hl
  have loop : ∀ (k : Nat), k ≤ n → bg_trim d k = bg_trim d n → ∀ ls : Array Slot, lv_has ls 3 [(2, .int (iZ (((k : Nat) : Int)))), (0, .ref (a)), (1, .int (iZ (((n : Nat) : Int))))] → W zp l ze (zRm 0 0) s zm args below meth zc s.heap [] 0 0 Q (F0 zm 19 ls []) := by
    intro k
    induction k with
    | zero =>
      intro hk htr ls hl
      refine lv_iload_n hx hb dX9_trim_19 rfl (lv_at hl 0 rfl) ?_
      refine zr_if_le hx hb 40 ⟨by omega, by omega⟩ dX9_trim_20 (by decide) (fun h_20 => ?_) (fun h_20 => ?_)
      · refine lv_aload_n hx hb dX9_trim_40 rfl (lv_at hl 1 rfl) ?_
        refine lv_iload_n hx hb dX9_trim_41 rfl (lv_at hl 0 rfl) ?_
        refine va_put (D := D) (ci := 9) (v := .int (iZ (((0 : Nat) : Int)))) (ty := tyX9 1) (C := RX9) (T := TX9) (N := 2) hx hb hts hin9 tyX9 tyX9_ok nmX9 hown hK hP hD hS 0 rfl rfl 1 (by decide) q_f_RX9_15_Whole_count_I (fun _ h9 => h9) rfl (tyX9_ok 1 (by decide)) rfl rfl (Nat.le_of_ble_eq_true rfl) dX9_trim_42 (fun H locs hP hD hS => ?_)
        have hP : va_P D vwCl [(a, .inr (9, [.ref (w), .int (iZ (((0 : Nat) : Int)))])), (w, aI cI (room) (d))] H := hP
        have hD : va_D A [(a, .inr (9, [.ref (w), .int (iZ (((0 : Nat) : Int)))])), (w, aI cI (room) (d))] := hD
        exact zr_vret hQ hx hb hr hlk dX9_trim_45 hK hP hD hS (by omega) (by omega) (by rw [← htr]; rfl)
      · exfalso; omega
    | succ j ih =>
      intro hk htr ls hl
      refine lv_iload_n hx hb dX9_trim_19 rfl (lv_at hl 0 rfl) ?_
      refine zr_if_le hx hb 40 ⟨by omega, by omega⟩ dX9_trim_20 (by decide) (fun h_20 => ?_) (fun h_20 => ?_)
      · exfalso; omega
      · refine lv_aload_n hx hb dX9_trim_23 rfl (lv_at hl 1 rfl) ?_
        refine va_get (D := D) (ci := 9) (v := .ref (w)) (C := RX9) (T := TX9) (N := 2) hx hb hts hin9 hown hK hP 0 rfl rfl 0 (by decide) q_f_RX9_9_Whole_words_I (fun _ h9 => h9) rfl dX9_trim_24 ?_
        refine lv_iload_n hx hb dX9_trim_27 rfl (lv_at hl 0 rfl) ?_
        refine lv_iconst (v := iZ 1) hx hb dX9_trim_28 rfl ?_
        refine zr_isub hx hb dX9_trim_29 ?_
        refine zr_iald hx hb hK hP 1 0 rfl rfl (j) (by omega) (by omega) (by omega) dX9_trim_30 ?_
        refine zr_if_ne hx hb 40 ⟨by have := (hd j (by omega)).1; omega, by have := (hd j (by omega)).2; omega⟩ dX9_trim_31 (by decide) (fun h_31 => ?_) (fun h_31 => ?_)
        · refine lv_aload_n hx hb dX9_trim_40 rfl (lv_at hl 1 rfl) ?_
          refine lv_iload_n hx hb dX9_trim_41 rfl (lv_at hl 0 rfl) ?_
          refine va_put (D := D) (ci := 9) (v := .int (iZ (((j + 1 : Nat) : Int)))) (ty := tyX9 1) (C := RX9) (T := TX9) (N := 2) hx hb hts hin9 tyX9 tyX9_ok nmX9 hown hK hP hD hS 0 rfl rfl 1 (by decide) q_f_RX9_15_Whole_count_I (fun _ h9 => h9) rfl (tyX9_ok 1 (by decide)) rfl rfl (Nat.le_of_ble_eq_true rfl) dX9_trim_42 (fun H locs hP hD hS => ?_)
          have hP : va_P D vwCl [(a, .inr (9, [.ref (w), .int (iZ (((j + 1 : Nat) : Int)))])), (w, aI cI (room) (d))] H := hP
          have hD : va_D A [(a, .inr (9, [.ref (w), .int (iZ (((j + 1 : Nat) : Int)))])), (w, aI cI (room) (d))] := hD
          exact zr_vret hQ hx hb hr hlk dX9_trim_45 hK hP hD hS (by omega) (by omega) (by rw [← htr, bg_trim_s1 h_31])
        · refine lv_iinc (v := iZ (((j : Nat) : Int))) (lv' := [(2, .int (iZ (((j : Nat) : Int)))), (0, .ref (a)), (1, .int (iZ (((n : Nat) : Int))))]) hx hb dX9_trim_34 hl (k := 0) rfl (by rw [show ((j : Nat) : Int) = ((j + 1 : Nat) : Int) + (-1) by omega]; exact iZ_add _ _) (by decide) rfl (fun ls hl => ?_)
          refine lv_goto (tgt := 19) hx hb dX9_trim_37 (by decide) ?_
          exact ih (by omega) (by rw [← htr, bg_trim_s0 h_31]) ls (lv_sub hl [0, 1, 2] rfl)
  have jn : ∀ ls : Array Slot, lv_has ls 3 [(0, .ref (a)), (1, .int (iZ (((n : Nat) : Int))))] → W zp l ze (zRm 0 0) s zm args below meth zc s.heap [] 0 0 Q (F0 zm 18 ls [.int (iZ ((n : Nat) : Int))]) := by
    intro ls hl
    refine lv_istore_n (lv' := [(2, .int (iZ (((n : Nat) : Int)))), (0, .ref (a)), (1, .int (iZ (((n : Nat) : Int))))]) hx hb dX9_trim_18 rfl hl (by decide) rfl (fun ls hl => ?_)
    exact loop n (Nat.le_refl n) rfl ls (lv_sub hl [0, 1, 2] rfl)
  refine lv_iload_n hx hb dX9_trim_0 rfl (lv_at hl 1 rfl) ?_
  refine lv_aload_n hx hb dX9_trim_1 rfl (lv_at hl 0 rfl) ?_
  refine va_get (D := D) (ci := 9) (v := .ref (w)) (C := RX9) (T := TX9) (N := 2) hx hb hts hin9 hown hK hP 0 rfl rfl 0 (by decide) q_f_RX9_9_Whole_words_I (fun _ h9 => h9) rfl dX9_trim_2 ?_
  refine zr_alen hx hb hK hP 1 0 rfl rfl dX9_trim_5 ?_
  refine zr_icmp_ge hx hb 13 ⟨by omega, by omega⟩ ⟨by omega, by omega⟩ dX9_trim_6 (by decide) (fun h_6 => ?_) (fun h_6 => ?_)
  · refine lv_aload_n hx hb dX9_trim_13 rfl (lv_at hl 0 rfl) ?_
    refine va_get (D := D) (ci := 9) (v := .ref (w)) (C := RX9) (T := TX9) (N := 2) hx hb hts hin9 hown hK hP 0 rfl rfl 0 (by decide) q_f_RX9_9_Whole_words_I (fun _ h9 => h9) rfl dX9_trim_14 ?_
    refine zr_alen hx hb hK hP 1 0 rfl rfl dX9_trim_17 ?_
    refine zr_eqi ((n : Nat) : Int) (by omega) ?_
    exact jn ls hl
  · refine lv_iload_n hx hb dX9_trim_9 rfl (lv_at hl 1 rfl) ?_
    refine lv_goto (tgt := 18) hx hb dX9_trim_10 (by decide) ?_
    refine zr_eqi ((n : Nat) : Int) (by omega) ?_
    exact jn ls hl
