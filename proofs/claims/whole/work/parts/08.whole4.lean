/-! powers of 2 -/
def bg_t (n : Nat) : Int := (2 : Int) ^ n
theorem bg_t0 : bg_t 0 = 1 := rfl
theorem bg_ts (n : Nat) : bg_t (n + 1) = 2 * bg_t n := by
  show (2 : Int) ^ (n + 1) = _ * (2 : Int) ^ n
  rw [Int.pow_succ, Int.mul_comm]
theorem bg_t_pos : ∀ n : Nat, 0 < bg_t n := by
  intro n
  induction n with
  | zero => decide
  | succ n ih => rw [bg_ts]; omega
theorem bg_t_add (a b : Nat) : bg_t (a + b) = bg_t a * bg_t b := Int.pow_add ..
theorem bg_t_le {a b : Nat} (h : a ≤ b) : bg_t a ≤ bg_t b := by
  obtain ⟨k, rfl⟩ : ∃ k, b = a + k := ⟨b - a, by omega⟩
  clear h
  induction k with
  | zero => exact Int.le_refl _
  | succ k ih =>
    have h1 := bg_t_pos (a + k)
    have h2 : bg_t (a + (k + 1)) = 2 * bg_t (a + k) := bg_ts (a + k)
    omega
theorem bg_t_lt_iff {a b : Nat} (h : bg_t a < bg_t b) : a < b := by
  rcases Nat.lt_or_ge a b with q | q
  · exact q
  · have := bg_t_le q; omega
theorem bg_p_t (n : Nat) : bg_p n = bg_t (31 * n) := by
  show (2147483648 : Int) ^ n = (2 : Int) ^ (31 * n)
  rw [Int.pow_mul]
  rfl
theorem bg_t16 (n : Nat) : (65536 : Int) ^ n = bg_t (16 * n) := by
  show _ = (2 : Int) ^ (16 * n)
  rw [Int.pow_mul]
  rfl
/-- r is the number of limbs of v -/
def bg_lc (v : Int) (r : Nat) : Prop := v < bg_t (16 * r) ∧ (0 < r → bg_t (16 * (r - 1)) ≤ v)
theorem bg_lc_uniq {v : Int} {r s : Nat} (h : bg_lc v r) (h2 : bg_lc v s) : r = s := by
  rcases Nat.lt_trichotomy r s with q | q | q
  · have a1 := h2.2 (by omega)
    have a2 := bg_t_le (show 16 * r ≤ 16 * (s - 1) by omega)
    have := h.1
    omega
  · exact q
  · have a1 := h.2 (by omega)
    have a2 := bg_t_le (show 16 * s ≤ 16 * (r - 1) by omega)
    have := h2.1
    omega
theorem bg_lc_bits {v : Int} {b : Nat} (h0 : 0 < b) (h1 : bg_t (b - 1) ≤ v) (h2 : v < bg_t b) : bg_lc v ((b + 15) / 16) := by
  refine ⟨?_, fun _ => ?_⟩
  · have := bg_t_le (show b ≤ 16 * ((b + 15) / 16) by omega); omega
  · have := bg_t_le (show 16 * ((b + 15) / 16 - 1) ≤ b - 1 by omega); omega
/-- the bits of a number whose top word has s spare ones -/
theorem bg_bits {d : Nat → Int} {n room s : Nat} {v : Int} (h : bg_ok d (n + 1) room v) (hs : s ≤ 30) (h1 : 1073741824 ≤ d n * 2 ^ s) (h2 : d n * 2 ^ s < 2147483648) : bg_t (31 * (n + 1) - s - 1) ≤ v ∧ v < bg_t (31 * (n + 1) - s) := by
  have hv := h.2.2.2
  rw [bg_vs] at hv
  have hd := bg_dg_le h.2.1 (Nat.le_succ n)
  have a1 := bg_val_nn hd
  have a2 := bg_val_lt hd
  have hsp := bg_t_pos s
  have hs1 : (2 : Int) ^ s = bg_t s := rfl
  rw [hs1] at h1 h2
  have e1 : bg_t 30 = 1073741824 := by decide
  have e2 : bg_t 31 = 2147483648 := by decide
  have c1 : bg_t (30 - s) ≤ d n := by
    have q : bg_t (30 - s) * bg_t s = bg_t 30 := by rw [← bg_t_add]; congr 1; omega
    rcases (show bg_t (30 - s) ≤ d n ∨ d n + 1 ≤ bg_t (30 - s) by omega) with w | w
    · exact w
    · have q3 : (d n + 1) * bg_t s ≤ bg_t (30 - s) * bg_t s := Int.mul_le_mul_of_nonneg_right w (Int.le_of_lt hsp)
      rw [Int.add_mul] at q3
      omega
  have c2 : d n + 1 ≤ bg_t (31 - s) := by
    have q : bg_t (31 - s) * bg_t s = bg_t 31 := by rw [← bg_t_add]; congr 1; omega
    rcases (show d n + 1 ≤ bg_t (31 - s) ∨ bg_t (31 - s) ≤ d n by omega) with w | w
    · exact w
    · have q3 : bg_t (31 - s) * bg_t s ≤ d n * bg_t s := Int.mul_le_mul_of_nonneg_right w (Int.le_of_lt hsp)
      omega
  have hp := bg_p_pos n
  have b1 : bg_t (30 - s) * bg_p n ≤ d n * bg_p n := Int.mul_le_mul_of_nonneg_right c1 (Int.le_of_lt hp)
  have b2 : (d n + 1) * bg_p n ≤ bg_t (31 - s) * bg_p n := Int.mul_le_mul_of_nonneg_right c2 (Int.le_of_lt hp)
  rw [Int.add_mul, Int.one_mul] at b2
  have e3 : bg_t (30 - s) * bg_p n = bg_t (31 * (n + 1) - s - 1) := by rw [bg_p_t, ← bg_t_add]; congr 1; omega
  have e4 : bg_t (31 - s) * bg_p n = bg_t (31 * (n + 1) - s) := by rw [bg_p_t, ← bg_t_add]; congr 1; omega
  omega
theorem bg_lc_le {d : Nat → Int} {n room r : Nat} {v : Int} (h : bg_ok d n room v) (hr : bg_lc v r) : r ≤ 2 * n := by
  rcases Nat.lt_or_ge (2 * n) r with q | q
  · have a1 := hr.2 (by omega)
    have a2 := bg_ok_lt h
    rw [bg_p_t] at a2
    have a3 := bg_t_le (show 31 * n ≤ 16 * (r - 1) by omega)
    omega
  · exact q
/-- a limb by two words -/
theorem bg_limb {d : Nat → Int} {n room k : Nat} {v : Int} (h : bg_ok d n room v) : (bg_at d n ((16 * k / 31 + 1 : Nat) : Int) * 2147483648 + bg_at d n ((16 * k / 31 : Nat) : Int)) / 2 ^ (16 * k % 31) % 2 ^ 16 = v / bg_t (16 * k) % 65536 := by
  rw [bg_at_x, bg_at_x]
  obtain ⟨a, ha⟩ : ∃ a, a = 16 * k / 31 := ⟨_, rfl⟩
  obtain ⟨o, ho⟩ : ∃ o, o = 16 * k % 31 := ⟨_, rfl⟩
  rw [← ha, ← ho]
  have hk : 16 * k = 31 * a + o := by omega
  have ho2 : o < 31 := by omega
  obtain ⟨m, hm⟩ : ∃ m : Nat, n ≤ a + (2 + m) := ⟨n, by omega⟩
  have hv : v = bg_val (bg_x d n) (a + (2 + m)) := by rw [bg_x_val d n _ hm, h.2.2.2]
  rw [bg_val_split, bg_val_split _ 2] at hv
  have hlo0 := bg_val_nn (bg_x_dg h.2.1 a)
  have hlo1 := bg_val_lt (bg_x_dg h.2.1 a)
  have e2 : bg_val (fun i => bg_x d n (a + i)) 2 = bg_x d n a + bg_x d n (a + 1) * 2147483648 := by
    rw [bg_vs, bg_vs, bg_v0, bg_p0, bg_p_small.1]
    show 0 + bg_x d n (a + 0) * 1 + bg_x d n (a + 1) * 2147483648 = _
    rw [Nat.add_zero]; omega
  rw [e2] at hv
  generalize bg_val (fun i => bg_x d n (a + (2 + i))) m = hi at hv
  generalize bg_val (bg_x d n) a = lo at hv hlo0 hlo1
  have hv' : v = lo + bg_p a * (bg_x d n a + bg_x d n (a + 1) * 2147483648 + bg_p 2 * hi) := hv
  have q1 : v / bg_p a = bg_x d n a + bg_x d n (a + 1) * 2147483648 + bg_p 2 * hi := by
    rw [hv', Int.add_mul_ediv_left _ _ (Int.ne_of_gt (bg_p_pos a)), Int.ediv_eq_zero_of_lt hlo0 hlo1]; omega
  rw [hk, bg_t_add, ← bg_p_t, ← Int.ediv_ediv_of_nonneg (Int.le_of_lt (bg_p_pos a)), q1]
  have q2 : bg_p 2 * hi = (bg_t (62 - o - 16) * 65536 * hi) * bg_t o := by
    have e5 : bg_p 2 = bg_t (62 - o - 16) * 65536 * bg_t o := by
      rw [bg_p_t, show (65536 : Int) = bg_t 16 from rfl, ← bg_t_add, ← bg_t_add]; congr 1; omega
    rw [e5, Int.mul_assoc, Int.mul_comm (bg_t o) hi, Int.mul_assoc, Int.mul_assoc, Int.mul_assoc]
  rw [q2, Int.add_mul_ediv_right _ _ (Int.ne_of_gt (bg_t_pos o))]
  have q3 : bg_t (62 - o - 16) * 65536 * hi = 65536 * (bg_t (62 - o - 16) * hi) := by rw [Int.mul_comm (bg_t (62 - o - 16)), Int.mul_assoc]
  rw [q3, Int.add_mul_emod_self_left, Int.add_comm (bg_x d n a)]
  rfl
theorem bg_sb_q {w x : Int} {q : Nat} (hw : 0 < w) (hx : x = w * 2 ^ q) (h : x < 2147483648) : q ≤ 30 := by
  have e : x = w * bg_t q := hx
  have e3 : bg_t 31 = 2147483648 := by decide
  have e4 : 1 * bg_t q ≤ w * bg_t q := Int.mul_le_mul_of_nonneg_right (by omega) (Int.le_of_lt (bg_t_pos _))
  have := bg_t_lt_iff (show bg_t q < bg_t 31 by omega)
  omega
theorem bg_gcd_half {g h t : Nat} (hl : h ≤ g) (h0 : 0 < h) (hp : g * h < 2 ^ (t + 1)) : h * (g % h) < 2 ^ t := by
  have h1 : h + g % h ≤ g := by
    have := Nat.div_add_mod g h
    have h2 : 1 ≤ g / h := Nat.div_pos hl h0
    have h3 : h * 1 ≤ h * (g / h) := Nat.mul_le_mul_left h h2
    omega
  have h2 : g % h < h := Nat.mod_lt g h0
  have h3 : 2 * (g % h) ≤ g := by omega
  have h4 : h * (2 * (g % h)) ≤ h * g := Nat.mul_le_mul_left h h3
  rw [Nat.mul_comm h g] at h4
  have h5 : h * (2 * (g % h)) = 2 * (h * (g % h)) := Nat.mul_left_comm h 2 (g % h)
  have h6 : 2 ^ (t + 1) = 2 * 2 ^ t := by rw [Nat.pow_succ, Nat.mul_comm]
  omega
set_option maxHeartbeats 4000000 in
set_option maxRecDepth 100000 in
/-- LimbSolver.spareBits -/
theorem c_spareBits (l : Launch) (D : va_G) (cI cJ cE cF cR : ClassId) (w : Int) (hw : 0 < w ∧ w < 2147483648) : Ci l D (zty cI cJ cE cF cR) yX10_spareBits wsX10_spareBits (zRm 0 0) 0 0 [.int (iZ (w))] [] (fun r w1 => w1 = [] ∧ ∃ q : Nat, r = q ∧ q ≤ 30 ∧ 1073741824 ≤ w * 2 ^ q ∧ w * 2 ^ q < 2147483648) := by
  unfold Ci
  refine zs (Qc := zQi D _ _) (cc := cX10_spareBits) (maxL := 4) (ret := (some .int)) (by decide) rfl (Nat.le_of_ble_eq_true rfl) ?_
  intro zp ze s zm below meth zc ls A args Q hQ hx hb hr hts hown hlk hml hnm hN hA hK hP hD hS hl
  have hl : lv_has ls 4 [(0, .int (iZ (w)))] := hl
  have hw0 : va_P D vwCl [] s.heap := hP
  have L0 : ∀ (x : Int) (q : Nat) (ls : Array Slot), 1073741824 ≤ x → x < 2147483648 → x = w * 2 ^ q → q ≤ 30 → lv_has ls 4 [(3, .int (iZ (0))), (2, .int (iZ (((q : Nat) : Int)))), (1, .int (iZ (x))), (0, .int (iZ (w)))] → W zp l ze (zRm 0 0) s zm args below meth zc s.heap [] 0 0 Q (F0 zm 14 ls []) := by
    intro x q ls hlo hhi hxw hq hl
    refine lv_iload_n hx hb dX10_spareBits_14 rfl (lv_at hl 0 rfl) ?_
    refine zr_if_le hx hb 42 ⟨by omega, by omega⟩ dX10_spareBits_15 (by decide) (fun h_15 => ?_) (fun h_15 => ?_)
    · refine lv_iload_n hx hb dX10_spareBits_42 rfl (lv_at hl 1 rfl) ?_
      exact zr_iret hQ hx hb hr hlk dX10_spareBits_43 hK hP hD hS (by omega) (by omega) ⟨by omega, by omega⟩ (⟨rfl, q, rfl, hq, by rw [← hxw]; omega, by rw [← hxw]; omega⟩)
    · exfalso; omega
  have L1 : ∀ (x : Int) (q : Nat) (ls : Array Slot), 536870912 ≤ x → x < 2147483648 → x = w * 2 ^ q → q ≤ 30 → lv_has ls 4 [(3, .int (iZ (1))), (2, .int (iZ (((q : Nat) : Int)))), (1, .int (iZ (x))), (0, .int (iZ (w)))] → W zp l ze (zRm 0 0) s zm args below meth zc s.heap [] 0 0 Q (F0 zm 14 ls []) := by
    intro x q ls hlo hhi hxw hq hl
    refine lv_iload_n hx hb dX10_spareBits_14 rfl (lv_at hl 0 rfl) ?_
    refine zr_if_le hx hb 42 ⟨by omega, by omega⟩ dX10_spareBits_15 (by decide) (fun h_15 => ?_) (fun h_15 => ?_)
    · exfalso; omega
    · refine lv_iload_n hx hb dX10_spareBits_18 rfl (lv_at hl 2 rfl) ?_
      refine lv_bipush (v := iZ 31) hx hb dX10_spareBits_19 (by decide) ?_
      refine lv_iload_n hx hb dX10_spareBits_21 rfl (lv_at hl 0 rfl) ?_
      refine zr_isub hx hb dX10_spareBits_22 ?_
      refine zr_eqi (30) (by omega) ?_
      refine zr_iushr (k := 30) hx hb ⟨by omega, by omega⟩ (by omega) (by omega) dX10_spareBits_23 ?_
      refine zr_if_ne hx hb 35 ⟨by omega, by omega⟩ dX10_spareBits_24 (by decide) (fun h_24 => ?_) (fun h_24 => ?_)
      · refine lv_iload_n hx hb dX10_spareBits_35 rfl (lv_at hl 0 rfl) ?_
        refine lv_iconst (v := iZ 1) hx hb dX10_spareBits_36 rfl ?_
        refine zr_ishr (k := 1) hx hb ⟨by omega, by omega⟩ (by omega) dX10_spareBits_37 ?_
        refine zr_eqi (0) (by decide) ?_
        refine lv_istore_n (lv' := [(3, .int (iZ (0))), (2, .int (iZ (((q : Nat) : Int)))), (1, .int (iZ (x))), (0, .int (iZ (w)))]) hx hb dX10_spareBits_38 rfl hl (by decide) rfl (fun ls hl => ?_)
        refine lv_goto (tgt := 14) hx hb dX10_spareBits_39 (by decide) ?_
        exact L0 (x) q ls (by omega) (by omega) hxw hq (lv_sub hl [0, 1, 2, 3] rfl)
      · refine lv_iload_n hx hb dX10_spareBits_27 rfl (lv_at hl 2 rfl) ?_
        refine lv_iload_n hx hb dX10_spareBits_28 rfl (lv_at hl 0 rfl) ?_
        refine zr_ishl (k := 1) hx hb (by omega) dX10_spareBits_29 ?_
        refine lv_istore_n (lv' := [(1, .int (iZ ((x) * 2 ^ (1)))), (3, .int (iZ (1))), (2, .int (iZ (((q : Nat) : Int)))), (0, .int (iZ (w)))]) hx hb dX10_spareBits_30 rfl hl (by decide) rfl (fun ls hl => ?_)
        refine lv_iload_n hx hb dX10_spareBits_31 rfl (lv_at hl 2 rfl) ?_
        refine lv_iload_n hx hb dX10_spareBits_32 rfl (lv_at hl 1 rfl) ?_
        refine zr_iadd hx hb dX10_spareBits_33 ?_
        refine zr_eqi (((q + 1 : Nat) : Int)) (by omega) ?_
        refine lv_istore_n (lv' := [(2, .int (iZ (((q + 1 : Nat) : Int)))), (1, .int (iZ ((x) * 2 ^ (1)))), (3, .int (iZ (1))), (0, .int (iZ (w)))]) hx hb dX10_spareBits_34 rfl hl (by decide) rfl (fun ls hl => ?_)
        refine lv_iload_n hx hb dX10_spareBits_35 rfl (lv_at hl 2 rfl) ?_
        refine lv_iconst (v := iZ 1) hx hb dX10_spareBits_36 rfl ?_
        refine zr_ishr (k := 1) hx hb ⟨by omega, by omega⟩ (by omega) dX10_spareBits_37 ?_
        refine zr_eqi (0) (by decide) ?_
        refine lv_istore_n (lv' := [(3, .int (iZ (0))), (2, .int (iZ (((q + 1 : Nat) : Int)))), (1, .int (iZ ((x) * 2 ^ (1)))), (0, .int (iZ (w)))]) hx hb dX10_spareBits_38 rfl hl (by decide) rfl (fun ls hl => ?_)
        refine lv_goto (tgt := 14) hx hb dX10_spareBits_39 (by decide) ?_
        exact L0 ((x) * 2 ^ (1)) (q + 1) ls (by omega) (by omega) (by rw [hxw, Int.pow_add, Int.mul_assoc]) (bg_sb_q (w := w) (x := x * 2 ^ 1) hw.1 (by rw [hxw, Int.pow_add, Int.mul_assoc]) (by omega)) (lv_sub hl [0, 1, 2, 3] rfl)
  have L2 : ∀ (x : Int) (q : Nat) (ls : Array Slot), 134217728 ≤ x → x < 2147483648 → x = w * 2 ^ q → q ≤ 30 → lv_has ls 4 [(3, .int (iZ (2))), (2, .int (iZ (((q : Nat) : Int)))), (1, .int (iZ (x))), (0, .int (iZ (w)))] → W zp l ze (zRm 0 0) s zm args below meth zc s.heap [] 0 0 Q (F0 zm 14 ls []) := by
    intro x q ls hlo hhi hxw hq hl
    refine lv_iload_n hx hb dX10_spareBits_14 rfl (lv_at hl 0 rfl) ?_
    refine zr_if_le hx hb 42 ⟨by omega, by omega⟩ dX10_spareBits_15 (by decide) (fun h_15 => ?_) (fun h_15 => ?_)
    · exfalso; omega
    · refine lv_iload_n hx hb dX10_spareBits_18 rfl (lv_at hl 2 rfl) ?_
      refine lv_bipush (v := iZ 31) hx hb dX10_spareBits_19 (by decide) ?_
      refine lv_iload_n hx hb dX10_spareBits_21 rfl (lv_at hl 0 rfl) ?_
      refine zr_isub hx hb dX10_spareBits_22 ?_
      refine zr_eqi (29) (by omega) ?_
      refine zr_iushr (k := 29) hx hb ⟨by omega, by omega⟩ (by omega) (by omega) dX10_spareBits_23 ?_
      refine zr_if_ne hx hb 35 ⟨by omega, by omega⟩ dX10_spareBits_24 (by decide) (fun h_24 => ?_) (fun h_24 => ?_)
      · refine lv_iload_n hx hb dX10_spareBits_35 rfl (lv_at hl 0 rfl) ?_
        refine lv_iconst (v := iZ 1) hx hb dX10_spareBits_36 rfl ?_
        refine zr_ishr (k := 1) hx hb ⟨by omega, by omega⟩ (by omega) dX10_spareBits_37 ?_
        refine zr_eqi (1) (by decide) ?_
        refine lv_istore_n (lv' := [(3, .int (iZ (1))), (2, .int (iZ (((q : Nat) : Int)))), (1, .int (iZ (x))), (0, .int (iZ (w)))]) hx hb dX10_spareBits_38 rfl hl (by decide) rfl (fun ls hl => ?_)
        refine lv_goto (tgt := 14) hx hb dX10_spareBits_39 (by decide) ?_
        exact L1 (x) q ls (by omega) (by omega) hxw hq (lv_sub hl [0, 1, 2, 3] rfl)
      · refine lv_iload_n hx hb dX10_spareBits_27 rfl (lv_at hl 2 rfl) ?_
        refine lv_iload_n hx hb dX10_spareBits_28 rfl (lv_at hl 0 rfl) ?_
        refine zr_ishl (k := 2) hx hb (by omega) dX10_spareBits_29 ?_
        refine lv_istore_n (lv' := [(1, .int (iZ ((x) * 2 ^ (2)))), (3, .int (iZ (2))), (2, .int (iZ (((q : Nat) : Int)))), (0, .int (iZ (w)))]) hx hb dX10_spareBits_30 rfl hl (by decide) rfl (fun ls hl => ?_)
        refine lv_iload_n hx hb dX10_spareBits_31 rfl (lv_at hl 2 rfl) ?_
        refine lv_iload_n hx hb dX10_spareBits_32 rfl (lv_at hl 1 rfl) ?_
        refine zr_iadd hx hb dX10_spareBits_33 ?_
        refine zr_eqi (((q + 2 : Nat) : Int)) (by omega) ?_
        refine lv_istore_n (lv' := [(2, .int (iZ (((q + 2 : Nat) : Int)))), (1, .int (iZ ((x) * 2 ^ (2)))), (3, .int (iZ (2))), (0, .int (iZ (w)))]) hx hb dX10_spareBits_34 rfl hl (by decide) rfl (fun ls hl => ?_)
        refine lv_iload_n hx hb dX10_spareBits_35 rfl (lv_at hl 2 rfl) ?_
        refine lv_iconst (v := iZ 1) hx hb dX10_spareBits_36 rfl ?_
        refine zr_ishr (k := 1) hx hb ⟨by omega, by omega⟩ (by omega) dX10_spareBits_37 ?_
        refine zr_eqi (1) (by decide) ?_
        refine lv_istore_n (lv' := [(3, .int (iZ (1))), (2, .int (iZ (((q + 2 : Nat) : Int)))), (1, .int (iZ ((x) * 2 ^ (2)))), (0, .int (iZ (w)))]) hx hb dX10_spareBits_38 rfl hl (by decide) rfl (fun ls hl => ?_)
        refine lv_goto (tgt := 14) hx hb dX10_spareBits_39 (by decide) ?_
        exact L1 ((x) * 2 ^ (2)) (q + 2) ls (by omega) (by omega) (by rw [hxw, Int.pow_add, Int.mul_assoc]) (bg_sb_q (w := w) (x := x * 2 ^ 2) hw.1 (by rw [hxw, Int.pow_add, Int.mul_assoc]) (by omega)) (lv_sub hl [0, 1, 2, 3] rfl)
  have L4 : ∀ (x : Int) (q : Nat) (ls : Array Slot), 8388608 ≤ x → x < 2147483648 → x = w * 2 ^ q → q ≤ 30 → lv_has ls 4 [(3, .int (iZ (4))), (2, .int (iZ (((q : Nat) : Int)))), (1, .int (iZ (x))), (0, .int (iZ (w)))] → W zp l ze (zRm 0 0) s zm args below meth zc s.heap [] 0 0 Q (F0 zm 14 ls []) := by
    intro x q ls hlo hhi hxw hq hl
    refine lv_iload_n hx hb dX10_spareBits_14 rfl (lv_at hl 0 rfl) ?_
    refine zr_if_le hx hb 42 ⟨by omega, by omega⟩ dX10_spareBits_15 (by decide) (fun h_15 => ?_) (fun h_15 => ?_)
    · exfalso; omega
    · refine lv_iload_n hx hb dX10_spareBits_18 rfl (lv_at hl 2 rfl) ?_
      refine lv_bipush (v := iZ 31) hx hb dX10_spareBits_19 (by decide) ?_
      refine lv_iload_n hx hb dX10_spareBits_21 rfl (lv_at hl 0 rfl) ?_
      refine zr_isub hx hb dX10_spareBits_22 ?_
      refine zr_eqi (27) (by omega) ?_
      refine zr_iushr (k := 27) hx hb ⟨by omega, by omega⟩ (by omega) (by omega) dX10_spareBits_23 ?_
      refine zr_if_ne hx hb 35 ⟨by omega, by omega⟩ dX10_spareBits_24 (by decide) (fun h_24 => ?_) (fun h_24 => ?_)
      · refine lv_iload_n hx hb dX10_spareBits_35 rfl (lv_at hl 0 rfl) ?_
        refine lv_iconst (v := iZ 1) hx hb dX10_spareBits_36 rfl ?_
        refine zr_ishr (k := 1) hx hb ⟨by omega, by omega⟩ (by omega) dX10_spareBits_37 ?_
        refine zr_eqi (2) (by decide) ?_
        refine lv_istore_n (lv' := [(3, .int (iZ (2))), (2, .int (iZ (((q : Nat) : Int)))), (1, .int (iZ (x))), (0, .int (iZ (w)))]) hx hb dX10_spareBits_38 rfl hl (by decide) rfl (fun ls hl => ?_)
        refine lv_goto (tgt := 14) hx hb dX10_spareBits_39 (by decide) ?_
        exact L2 (x) q ls (by omega) (by omega) hxw hq (lv_sub hl [0, 1, 2, 3] rfl)
      · refine lv_iload_n hx hb dX10_spareBits_27 rfl (lv_at hl 2 rfl) ?_
        refine lv_iload_n hx hb dX10_spareBits_28 rfl (lv_at hl 0 rfl) ?_
        refine zr_ishl (k := 4) hx hb (by omega) dX10_spareBits_29 ?_
        refine lv_istore_n (lv' := [(1, .int (iZ ((x) * 2 ^ (4)))), (3, .int (iZ (4))), (2, .int (iZ (((q : Nat) : Int)))), (0, .int (iZ (w)))]) hx hb dX10_spareBits_30 rfl hl (by decide) rfl (fun ls hl => ?_)
        refine lv_iload_n hx hb dX10_spareBits_31 rfl (lv_at hl 2 rfl) ?_
        refine lv_iload_n hx hb dX10_spareBits_32 rfl (lv_at hl 1 rfl) ?_
        refine zr_iadd hx hb dX10_spareBits_33 ?_
        refine zr_eqi (((q + 4 : Nat) : Int)) (by omega) ?_
        refine lv_istore_n (lv' := [(2, .int (iZ (((q + 4 : Nat) : Int)))), (1, .int (iZ ((x) * 2 ^ (4)))), (3, .int (iZ (4))), (0, .int (iZ (w)))]) hx hb dX10_spareBits_34 rfl hl (by decide) rfl (fun ls hl => ?_)
        refine lv_iload_n hx hb dX10_spareBits_35 rfl (lv_at hl 2 rfl) ?_
        refine lv_iconst (v := iZ 1) hx hb dX10_spareBits_36 rfl ?_
        refine zr_ishr (k := 1) hx hb ⟨by omega, by omega⟩ (by omega) dX10_spareBits_37 ?_
        refine zr_eqi (2) (by decide) ?_
        refine lv_istore_n (lv' := [(3, .int (iZ (2))), (2, .int (iZ (((q + 4 : Nat) : Int)))), (1, .int (iZ ((x) * 2 ^ (4)))), (0, .int (iZ (w)))]) hx hb dX10_spareBits_38 rfl hl (by decide) rfl (fun ls hl => ?_)
        refine lv_goto (tgt := 14) hx hb dX10_spareBits_39 (by decide) ?_
        exact L2 ((x) * 2 ^ (4)) (q + 4) ls (by omega) (by omega) (by rw [hxw, Int.pow_add, Int.mul_assoc]) (bg_sb_q (w := w) (x := x * 2 ^ 4) hw.1 (by rw [hxw, Int.pow_add, Int.mul_assoc]) (by omega)) (lv_sub hl [0, 1, 2, 3] rfl)
  have L8 : ∀ (x : Int) (q : Nat) (ls : Array Slot), 32768 ≤ x → x < 2147483648 → x = w * 2 ^ q → q ≤ 30 → lv_has ls 4 [(3, .int (iZ (8))), (2, .int (iZ (((q : Nat) : Int)))), (1, .int (iZ (x))), (0, .int (iZ (w)))] → W zp l ze (zRm 0 0) s zm args below meth zc s.heap [] 0 0 Q (F0 zm 14 ls []) := by
    intro x q ls hlo hhi hxw hq hl
    refine lv_iload_n hx hb dX10_spareBits_14 rfl (lv_at hl 0 rfl) ?_
    refine zr_if_le hx hb 42 ⟨by omega, by omega⟩ dX10_spareBits_15 (by decide) (fun h_15 => ?_) (fun h_15 => ?_)
    · exfalso; omega
    · refine lv_iload_n hx hb dX10_spareBits_18 rfl (lv_at hl 2 rfl) ?_
      refine lv_bipush (v := iZ 31) hx hb dX10_spareBits_19 (by decide) ?_
      refine lv_iload_n hx hb dX10_spareBits_21 rfl (lv_at hl 0 rfl) ?_
      refine zr_isub hx hb dX10_spareBits_22 ?_
      refine zr_eqi (23) (by omega) ?_
      refine zr_iushr (k := 23) hx hb ⟨by omega, by omega⟩ (by omega) (by omega) dX10_spareBits_23 ?_
      refine zr_if_ne hx hb 35 ⟨by omega, by omega⟩ dX10_spareBits_24 (by decide) (fun h_24 => ?_) (fun h_24 => ?_)
      · refine lv_iload_n hx hb dX10_spareBits_35 rfl (lv_at hl 0 rfl) ?_
        refine lv_iconst (v := iZ 1) hx hb dX10_spareBits_36 rfl ?_
        refine zr_ishr (k := 1) hx hb ⟨by omega, by omega⟩ (by omega) dX10_spareBits_37 ?_
        refine zr_eqi (4) (by decide) ?_
        refine lv_istore_n (lv' := [(3, .int (iZ (4))), (2, .int (iZ (((q : Nat) : Int)))), (1, .int (iZ (x))), (0, .int (iZ (w)))]) hx hb dX10_spareBits_38 rfl hl (by decide) rfl (fun ls hl => ?_)
        refine lv_goto (tgt := 14) hx hb dX10_spareBits_39 (by decide) ?_
        exact L4 (x) q ls (by omega) (by omega) hxw hq (lv_sub hl [0, 1, 2, 3] rfl)
      · refine lv_iload_n hx hb dX10_spareBits_27 rfl (lv_at hl 2 rfl) ?_
        refine lv_iload_n hx hb dX10_spareBits_28 rfl (lv_at hl 0 rfl) ?_
        refine zr_ishl (k := 8) hx hb (by omega) dX10_spareBits_29 ?_
        refine lv_istore_n (lv' := [(1, .int (iZ ((x) * 2 ^ (8)))), (3, .int (iZ (8))), (2, .int (iZ (((q : Nat) : Int)))), (0, .int (iZ (w)))]) hx hb dX10_spareBits_30 rfl hl (by decide) rfl (fun ls hl => ?_)
        refine lv_iload_n hx hb dX10_spareBits_31 rfl (lv_at hl 2 rfl) ?_
        refine lv_iload_n hx hb dX10_spareBits_32 rfl (lv_at hl 1 rfl) ?_
        refine zr_iadd hx hb dX10_spareBits_33 ?_
        refine zr_eqi (((q + 8 : Nat) : Int)) (by omega) ?_
        refine lv_istore_n (lv' := [(2, .int (iZ (((q + 8 : Nat) : Int)))), (1, .int (iZ ((x) * 2 ^ (8)))), (3, .int (iZ (8))), (0, .int (iZ (w)))]) hx hb dX10_spareBits_34 rfl hl (by decide) rfl (fun ls hl => ?_)
        refine lv_iload_n hx hb dX10_spareBits_35 rfl (lv_at hl 2 rfl) ?_
        refine lv_iconst (v := iZ 1) hx hb dX10_spareBits_36 rfl ?_
        refine zr_ishr (k := 1) hx hb ⟨by omega, by omega⟩ (by omega) dX10_spareBits_37 ?_
        refine zr_eqi (4) (by decide) ?_
        refine lv_istore_n (lv' := [(3, .int (iZ (4))), (2, .int (iZ (((q + 8 : Nat) : Int)))), (1, .int (iZ ((x) * 2 ^ (8)))), (0, .int (iZ (w)))]) hx hb dX10_spareBits_38 rfl hl (by decide) rfl (fun ls hl => ?_)
        refine lv_goto (tgt := 14) hx hb dX10_spareBits_39 (by decide) ?_
        exact L4 ((x) * 2 ^ (8)) (q + 8) ls (by omega) (by omega) (by rw [hxw, Int.pow_add, Int.mul_assoc]) (bg_sb_q (w := w) (x := x * 2 ^ 8) hw.1 (by rw [hxw, Int.pow_add, Int.mul_assoc]) (by omega)) (lv_sub hl [0, 1, 2, 3] rfl)
  have L16 : ∀ (x : Int) (q : Nat) (ls : Array Slot), 1 ≤ x → x < 2147483648 → x = w * 2 ^ q → q ≤ 30 → lv_has ls 4 [(3, .int (iZ (16))), (2, .int (iZ (((q : Nat) : Int)))), (1, .int (iZ (x))), (0, .int (iZ (w)))] → W zp l ze (zRm 0 0) s zm args below meth zc s.heap [] 0 0 Q (F0 zm 14 ls []) := by
    intro x q ls hlo hhi hxw hq hl
    refine lv_iload_n hx hb dX10_spareBits_14 rfl (lv_at hl 0 rfl) ?_
    refine zr_if_le hx hb 42 ⟨by omega, by omega⟩ dX10_spareBits_15 (by decide) (fun h_15 => ?_) (fun h_15 => ?_)
    · exfalso; omega
    · refine lv_iload_n hx hb dX10_spareBits_18 rfl (lv_at hl 2 rfl) ?_
      refine lv_bipush (v := iZ 31) hx hb dX10_spareBits_19 (by decide) ?_
      refine lv_iload_n hx hb dX10_spareBits_21 rfl (lv_at hl 0 rfl) ?_
      refine zr_isub hx hb dX10_spareBits_22 ?_
      refine zr_eqi (15) (by omega) ?_
      refine zr_iushr (k := 15) hx hb ⟨by omega, by omega⟩ (by omega) (by omega) dX10_spareBits_23 ?_
      refine zr_if_ne hx hb 35 ⟨by omega, by omega⟩ dX10_spareBits_24 (by decide) (fun h_24 => ?_) (fun h_24 => ?_)
      · refine lv_iload_n hx hb dX10_spareBits_35 rfl (lv_at hl 0 rfl) ?_
        refine lv_iconst (v := iZ 1) hx hb dX10_spareBits_36 rfl ?_
        refine zr_ishr (k := 1) hx hb ⟨by omega, by omega⟩ (by omega) dX10_spareBits_37 ?_
        refine zr_eqi (8) (by decide) ?_
        refine lv_istore_n (lv' := [(3, .int (iZ (8))), (2, .int (iZ (((q : Nat) : Int)))), (1, .int (iZ (x))), (0, .int (iZ (w)))]) hx hb dX10_spareBits_38 rfl hl (by decide) rfl (fun ls hl => ?_)
        refine lv_goto (tgt := 14) hx hb dX10_spareBits_39 (by decide) ?_
        exact L8 (x) q ls (by omega) (by omega) hxw hq (lv_sub hl [0, 1, 2, 3] rfl)
      · refine lv_iload_n hx hb dX10_spareBits_27 rfl (lv_at hl 2 rfl) ?_
        refine lv_iload_n hx hb dX10_spareBits_28 rfl (lv_at hl 0 rfl) ?_
        refine zr_ishl (k := 16) hx hb (by omega) dX10_spareBits_29 ?_
        refine lv_istore_n (lv' := [(1, .int (iZ ((x) * 2 ^ (16)))), (3, .int (iZ (16))), (2, .int (iZ (((q : Nat) : Int)))), (0, .int (iZ (w)))]) hx hb dX10_spareBits_30 rfl hl (by decide) rfl (fun ls hl => ?_)
        refine lv_iload_n hx hb dX10_spareBits_31 rfl (lv_at hl 2 rfl) ?_
        refine lv_iload_n hx hb dX10_spareBits_32 rfl (lv_at hl 1 rfl) ?_
        refine zr_iadd hx hb dX10_spareBits_33 ?_
        refine zr_eqi (((q + 16 : Nat) : Int)) (by omega) ?_
        refine lv_istore_n (lv' := [(2, .int (iZ (((q + 16 : Nat) : Int)))), (1, .int (iZ ((x) * 2 ^ (16)))), (3, .int (iZ (16))), (0, .int (iZ (w)))]) hx hb dX10_spareBits_34 rfl hl (by decide) rfl (fun ls hl => ?_)
        refine lv_iload_n hx hb dX10_spareBits_35 rfl (lv_at hl 2 rfl) ?_
        refine lv_iconst (v := iZ 1) hx hb dX10_spareBits_36 rfl ?_
        refine zr_ishr (k := 1) hx hb ⟨by omega, by omega⟩ (by omega) dX10_spareBits_37 ?_
        refine zr_eqi (8) (by decide) ?_
        refine lv_istore_n (lv' := [(3, .int (iZ (8))), (2, .int (iZ (((q + 16 : Nat) : Int)))), (1, .int (iZ ((x) * 2 ^ (16)))), (0, .int (iZ (w)))]) hx hb dX10_spareBits_38 rfl hl (by decide) rfl (fun ls hl => ?_)
        refine lv_goto (tgt := 14) hx hb dX10_spareBits_39 (by decide) ?_
        exact L8 ((x) * 2 ^ (16)) (q + 16) ls (by omega) (by omega) (by rw [hxw, Int.pow_add, Int.mul_assoc]) (bg_sb_q (w := w) (x := x * 2 ^ 16) hw.1 (by rw [hxw, Int.pow_add, Int.mul_assoc]) (by omega)) (lv_sub hl [0, 1, 2, 3] rfl)
  refine lv_iload_n hx hb dX10_spareBits_0 rfl (lv_at hl 0 rfl) ?_
  refine zr_if_gt hx hb 7 ⟨by omega, by omega⟩ dX10_spareBits_1 (by decide) (fun h_1 => ?_) (fun h_1 => ?_)
  · refine lv_iload_n hx hb dX10_spareBits_7 rfl (lv_at hl 0 rfl) ?_
    refine lv_istore_n (lv' := [(1, .int (iZ (w))), (0, .int (iZ (w)))]) hx hb dX10_spareBits_8 rfl hl (by decide) rfl (fun ls hl => ?_)
    refine lv_iconst (v := iZ 0) hx hb dX10_spareBits_9 rfl ?_
    refine lv_istore_n (lv' := [(2, .int (iZ (0))), (1, .int (iZ (w))), (0, .int (iZ (w)))]) hx hb dX10_spareBits_10 rfl hl (by decide) rfl (fun ls hl => ?_)
    refine lv_bipush (v := iZ 16) hx hb dX10_spareBits_11 (by decide) ?_
    refine lv_istore_n (lv' := [(3, .int (iZ (16))), (2, .int (iZ (((0 : Nat) : Int)))), (1, .int (iZ (w))), (0, .int (iZ (w)))]) hx hb dX10_spareBits_13 rfl hl (by decide) rfl (fun ls hl => ?_)
    exact L16 w 0 ls (by omega) (by omega) (by rw [Int.pow_zero, Int.mul_one]) (by omega) (lv_sub hl [0, 1, 2, 3] rfl)
  · exfalso; omega

set_option maxHeartbeats 4000000 in
set_option maxRecDepth 100000 in
/-- LimbSolver.commonDivisor -/
theorem c_commonDivisor (l : Launch) (D : va_G) (cI cJ cE cF cR : ClassId) (a b : Nat) (ha : a < 9223372036854775808) (hb2 : b < 9223372036854775808) : Cl l D (zty cI cJ cE cF cR) yX10_commonDivisor wsX10_commonDivisor (zRm 0 0) 0 0 [.long (lZ (((a : Nat) : Int))), .long (lZ (((b : Nat) : Int)))] [] (fun r w1 => w1 = [] ∧ r = ((Nat.gcd a b : Nat) : Int)) := by
  unfold Cl
  refine zs (Qc := zQl D _ _) (cc := cX10_commonDivisor) (maxL := 11) (ret := (some .long)) (by decide) rfl (Nat.le_of_ble_eq_true rfl) ?_
  intro zp ze s zm below meth zc ls A args Q hQ hx hb hr hts hown hlk hml hnm hN hA hK hP hD hS hl
  have q_constant_RX10_159_1000000 := hts (.constant RX10 159 (1000000)) (by decide +kernel)
  have hl : lv_has ls 11 [(0, .long (lZ (((a : Nat) : Int)))), (2, .long (lZ (((b : Nat) : Int))))] := hl
  have lp : ∀ (t i g h : Nat) (ls : Array Slot), i + t ≤ 1000 → g < 9223372036854775808 → h < 9223372036854775808 → h ≤ g → Nat.gcd g h = Nat.gcd a b → g * h < 2 ^ t → lv_has ls 11 [(8, .int (iZ (((i : Nat) : Int)))), (6, .long (lZ (((h : Nat) : Int)))), (4, .long (lZ (((g : Nat) : Int)))), (0, .long (lZ (((a : Nat) : Int)))), (2, .long (lZ (((b : Nat) : Int))))] → W zp l ze (zRm 0 0) s zm args below meth zc s.heap [] 0 0 Q (F0 zm 9 ls []) := by
    intro t
    induction t with
    | zero =>
      intro i g h ls hit hg hh hhg hgcd hp hl
      refine lv_iload hx hb dX10_commonDivisor_9 (lv_at hl 0 rfl) ?_
      refine zr_ldc hx hb 1000000 (by decide) hown q_constant_RX10_159_1000000 dX10_commonDivisor_11 ?_
      refine zr_icmp_ge hx hb 44 ⟨by omega, by omega⟩ ⟨by omega, by omega⟩ dX10_commonDivisor_13 (by decide) (fun h_13 => ?_) (fun h_13 => ?_)
      · exfalso; omega
      · refine lv_lload hx hb dX10_commonDivisor_16 (lv_at hl 1 rfl) ?_
        refine lv_lconst (v := lZ 0) hx hb dX10_commonDivisor_18 rfl ?_
        refine zr_lcmp_eq hx hb 44 ⟨by omega, by omega⟩ ⟨by omega, by omega⟩ dX10_commonDivisor_19 dX10_commonDivisor_20 (by decide) (fun h_19 => ?_) (fun h_19 => ?_)
        · refine lv_lload hx hb dX10_commonDivisor_44 (lv_at hl 2 rfl) ?_
          exact zr_lret hQ hx hb hr hlk dX10_commonDivisor_46 hK hP hD hS (by omega) (by omega) ⟨by omega, by omega⟩ (⟨rfl, by rw [← hgcd, show h = 0 by omega, Nat.gcd_zero_right]⟩)
        · exfalso; rcases Nat.eq_zero_or_pos h with q | q; (subst q; omega); (have : 1 * 1 ≤ g * h := Nat.mul_le_mul (by omega) q; omega)
    | succ t ih =>
      intro i g h ls hit hg hh hhg hgcd hp hl
      refine lv_iload hx hb dX10_commonDivisor_9 (lv_at hl 0 rfl) ?_
      refine zr_ldc hx hb 1000000 (by decide) hown q_constant_RX10_159_1000000 dX10_commonDivisor_11 ?_
      refine zr_icmp_ge hx hb 44 ⟨by omega, by omega⟩ ⟨by omega, by omega⟩ dX10_commonDivisor_13 (by decide) (fun h_13 => ?_) (fun h_13 => ?_)
      · exfalso; omega
      · refine lv_lload hx hb dX10_commonDivisor_16 (lv_at hl 1 rfl) ?_
        refine lv_lconst (v := lZ 0) hx hb dX10_commonDivisor_18 rfl ?_
        refine zr_lcmp_eq hx hb 44 ⟨by omega, by omega⟩ ⟨by omega, by omega⟩ dX10_commonDivisor_19 dX10_commonDivisor_20 (by decide) (fun h_19 => ?_) (fun h_19 => ?_)
        · refine lv_lload hx hb dX10_commonDivisor_44 (lv_at hl 2 rfl) ?_
          exact zr_lret hQ hx hb hr hlk dX10_commonDivisor_46 hK hP hD hS (by omega) (by omega) ⟨by omega, by omega⟩ (⟨rfl, by rw [← hgcd, show h = 0 by omega, Nat.gcd_zero_right]⟩)
        · refine lv_lload hx hb dX10_commonDivisor_23 (lv_at hl 2 rfl) ?_
          refine lv_lload hx hb dX10_commonDivisor_25 (lv_at hl 1 rfl) ?_
          refine zr_lrem hx hb ⟨by omega, by omega⟩ ⟨by omega, by omega⟩ (by omega) (by omega) dX10_commonDivisor_27 ?_
          refine zr_eql (((g % h : Nat) : Int)) ((Int.natCast_emod g h).symm) ?_
          refine lv_lstore (lv' := [(9, .long (lZ (((g % h : Nat) : Int)))), (8, .int (iZ (((i : Nat) : Int)))), (6, .long (lZ (((h : Nat) : Int)))), (4, .long (lZ (((g : Nat) : Int)))), (0, .long (lZ (((a : Nat) : Int)))), (2, .long (lZ (((b : Nat) : Int))))]) hx hb dX10_commonDivisor_28 hl (by decide) rfl (fun ls hl => ?_)
          refine lv_lload hx hb dX10_commonDivisor_30 (lv_at hl 2 rfl) ?_
          refine lv_lstore (lv' := [(4, .long (lZ (((h : Nat) : Int)))), (9, .long (lZ (((g % h : Nat) : Int)))), (8, .int (iZ (((i : Nat) : Int)))), (6, .long (lZ (((h : Nat) : Int)))), (0, .long (lZ (((a : Nat) : Int)))), (2, .long (lZ (((b : Nat) : Int))))]) hx hb dX10_commonDivisor_32 hl (by decide) rfl (fun ls hl => ?_)
          refine lv_lload hx hb dX10_commonDivisor_34 (lv_at hl 1 rfl) ?_
          refine lv_lstore (lv' := [(6, .long (lZ (((g % h : Nat) : Int)))), (4, .long (lZ (((h : Nat) : Int)))), (9, .long (lZ (((g % h : Nat) : Int)))), (8, .int (iZ (((i : Nat) : Int)))), (0, .long (lZ (((a : Nat) : Int)))), (2, .long (lZ (((b : Nat) : Int))))]) hx hb dX10_commonDivisor_36 hl (by decide) rfl (fun ls hl => ?_)
          refine lv_iinc (v := iZ (((i + 1 : Nat) : Int))) (lv' := [(8, .int (iZ (((i + 1 : Nat) : Int)))), (6, .long (lZ (((g % h : Nat) : Int)))), (4, .long (lZ (((h : Nat) : Int)))), (9, .long (lZ (((g % h : Nat) : Int)))), (0, .long (lZ (((a : Nat) : Int)))), (2, .long (lZ (((b : Nat) : Int))))]) hx hb dX10_commonDivisor_38 hl (k := 3) rfl (by rw [show ((i + 1 : Nat) : Int) = ((i : Nat) : Int) + 1 by omega]; exact iZ_add _ _) (by decide) rfl (fun ls hl => ?_)
          refine lv_goto (tgt := 9) hx hb dX10_commonDivisor_41 (by decide) ?_
          exact ih (i + 1) h (g % h) ls (by omega) (by omega) (by have := Nat.mod_lt g (show 0 < h by omega); omega) (by have := Nat.mod_lt g (show 0 < h by omega); omega) (by rw [← hgcd, Nat.gcd_comm g h, Nat.gcd_rec h g, Nat.gcd_comm]) (bg_gcd_half hhg (by omega) hp) (lv_sub hl [0, 1, 2, 4, 5] rfl)
  by_cases hab : b ≤ a
  · refine lv_lload_n hx hb dX10_commonDivisor_0 rfl (lv_at hl 0 rfl) ?_
    refine lv_lstore (lv' := [(4, .long (lZ (((a : Nat) : Int)))), (0, .long (lZ (((a : Nat) : Int)))), (2, .long (lZ (((b : Nat) : Int))))]) hx hb dX10_commonDivisor_1 hl (by decide) rfl (fun ls hl => ?_)
    refine lv_lload_n hx hb dX10_commonDivisor_3 rfl (lv_at hl 2 rfl) ?_
    refine lv_lstore (lv' := [(6, .long (lZ (((b : Nat) : Int)))), (4, .long (lZ (((a : Nat) : Int)))), (0, .long (lZ (((a : Nat) : Int)))), (2, .long (lZ (((b : Nat) : Int))))]) hx hb dX10_commonDivisor_4 hl (by decide) rfl (fun ls hl => ?_)
    refine lv_iconst (v := iZ 0) hx hb dX10_commonDivisor_6 rfl ?_
    refine lv_istore (lv' := [(8, .int (iZ (0))), (6, .long (lZ (((b : Nat) : Int)))), (4, .long (lZ (((a : Nat) : Int)))), (0, .long (lZ (((a : Nat) : Int)))), (2, .long (lZ (((b : Nat) : Int))))]) hx hb dX10_commonDivisor_7 hl (by decide) rfl (fun ls hl => ?_)
    exact lp 126 0 a b ls (by omega) ha hb2 hab rfl (Nat.lt_of_lt_of_le (Nat.mul_lt_mul_of_lt_of_le ha (Nat.le_of_lt hb2) (by omega)) (by decide)) (lv_sub hl [0, 1, 2, 3, 4] rfl)
  · refine lv_lload_n hx hb dX10_commonDivisor_0 rfl (lv_at hl 0 rfl) ?_
    refine lv_lstore (lv' := [(4, .long (lZ (((a : Nat) : Int)))), (0, .long (lZ (((a : Nat) : Int)))), (2, .long (lZ (((b : Nat) : Int))))]) hx hb dX10_commonDivisor_1 hl (by decide) rfl (fun ls hl => ?_)
    refine lv_lload_n hx hb dX10_commonDivisor_3 rfl (lv_at hl 2 rfl) ?_
    refine lv_lstore (lv' := [(6, .long (lZ (((b : Nat) : Int)))), (4, .long (lZ (((a : Nat) : Int)))), (0, .long (lZ (((a : Nat) : Int)))), (2, .long (lZ (((b : Nat) : Int))))]) hx hb dX10_commonDivisor_4 hl (by decide) rfl (fun ls hl => ?_)
    refine lv_iconst (v := iZ 0) hx hb dX10_commonDivisor_6 rfl ?_
    refine lv_istore (lv' := [(8, .int (iZ (0))), (6, .long (lZ (((b : Nat) : Int)))), (4, .long (lZ (((a : Nat) : Int)))), (0, .long (lZ (((a : Nat) : Int)))), (2, .long (lZ (((b : Nat) : Int))))]) hx hb dX10_commonDivisor_7 hl (by decide) rfl (fun ls hl => ?_)
    refine lv_iload hx hb dX10_commonDivisor_9 (lv_at hl 0 rfl) ?_
    refine zr_ldc hx hb 1000000 (by decide) hown q_constant_RX10_159_1000000 dX10_commonDivisor_11 ?_
    refine zr_icmp_ge hx hb 44 ⟨by omega, by omega⟩ ⟨by omega, by omega⟩ dX10_commonDivisor_13 (by decide) (fun h_13 => ?_) (fun h_13 => ?_)
    · exfalso; omega
    · refine lv_lload hx hb dX10_commonDivisor_16 (lv_at hl 1 rfl) ?_
      refine lv_lconst (v := lZ 0) hx hb dX10_commonDivisor_18 rfl ?_
      refine zr_lcmp_eq hx hb 44 ⟨by omega, by omega⟩ ⟨by omega, by omega⟩ dX10_commonDivisor_19 dX10_commonDivisor_20 (by decide) (fun h_19 => ?_) (fun h_19 => ?_)
      · exfalso; omega
      · refine lv_lload hx hb dX10_commonDivisor_23 (lv_at hl 2 rfl) ?_
        refine lv_lload hx hb dX10_commonDivisor_25 (lv_at hl 1 rfl) ?_
        refine zr_lrem hx hb ⟨by omega, by omega⟩ ⟨by omega, by omega⟩ (by omega) (by omega) dX10_commonDivisor_27 ?_
        refine zr_eql (((a : Nat) : Int)) (Int.emod_eq_of_lt (by omega) (by omega)) ?_
        refine lv_lstore (lv' := [(9, .long (lZ (((a : Nat) : Int)))), (8, .int (iZ (0))), (6, .long (lZ (((b : Nat) : Int)))), (4, .long (lZ (((a : Nat) : Int)))), (0, .long (lZ (((a : Nat) : Int)))), (2, .long (lZ (((b : Nat) : Int))))]) hx hb dX10_commonDivisor_28 hl (by decide) rfl (fun ls hl => ?_)
        refine lv_lload hx hb dX10_commonDivisor_30 (lv_at hl 2 rfl) ?_
        refine lv_lstore (lv' := [(4, .long (lZ (((b : Nat) : Int)))), (9, .long (lZ (((a : Nat) : Int)))), (8, .int (iZ (0))), (6, .long (lZ (((b : Nat) : Int)))), (0, .long (lZ (((a : Nat) : Int)))), (2, .long (lZ (((b : Nat) : Int))))]) hx hb dX10_commonDivisor_32 hl (by decide) rfl (fun ls hl => ?_)
        refine lv_lload hx hb dX10_commonDivisor_34 (lv_at hl 1 rfl) ?_
        refine lv_lstore (lv' := [(6, .long (lZ (((a : Nat) : Int)))), (4, .long (lZ (((b : Nat) : Int)))), (9, .long (lZ (((a : Nat) : Int)))), (8, .int (iZ (0))), (0, .long (lZ (((a : Nat) : Int)))), (2, .long (lZ (((b : Nat) : Int))))]) hx hb dX10_commonDivisor_36 hl (by decide) rfl (fun ls hl => ?_)
        refine lv_iinc (v := iZ (0 + 1)) (lv' := [(8, .int (iZ (0 + 1))), (6, .long (lZ (((a : Nat) : Int)))), (4, .long (lZ (((b : Nat) : Int)))), (9, .long (lZ (((a : Nat) : Int)))), (0, .long (lZ (((a : Nat) : Int)))), (2, .long (lZ (((b : Nat) : Int))))]) hx hb dX10_commonDivisor_38 hl (k := 3) rfl (iZ_add _ _) (by decide) rfl (fun ls hl => ?_)
        refine lv_goto (tgt := 9) hx hb dX10_commonDivisor_41 (by decide) ?_
        exact lp 126 1 b a ls (by omega) hb2 ha (by omega) (Nat.gcd_comm b a) (Nat.lt_of_lt_of_le (Nat.mul_lt_mul_of_lt_of_le hb2 (Nat.le_of_lt ha) (by omega)) (by decide)) (lv_sub hl [0, 1, 2, 4, 5] rfl)

set_option maxHeartbeats 4000000 in
set_option maxRecDepth 100000 in
/-- Whole.limbCount -/
theorem c_limbCount (l : Launch) (D : va_G) (cI cJ cE cF cR : ClassId) (a w room n : Nat) (d : Nat → Int) (v1 : Int) (h1 : bg_ok d n room v1) (hroom : room ≤ 1000) : Ci l D (zty cI cJ cE cF cR) yX9_limbCount wsX9_limbCount (zRm 1 23) 0 0 [.ref (a)] [(a, .inr (9, [.ref (w), .int (iZ (((n : Nat) : Int)))])), (w, aI cI (room) (d))] (fun r w1 => w1 = [(a, .inr (9, [.ref (w), .int (iZ (((n : Nat) : Int)))])), (w, aI cI (room) (d))] ∧ ∃ x : Nat, r = x ∧ bg_lc v1 x) := by
  unfold Ci
  refine zs (Qc := zQi D _ _) (cc := cX9_limbCount) (maxL := 2) (ret := (some .int)) (by decide) rfl (Nat.le_of_ble_eq_true rfl) ?_
  intro zp ze s zm below meth zc ls A args Q hQ hx hb hr hts hown hlk hml hnm hN hA hK hP hD hS hl
  have q_f_RX9_15_Whole_count_I := hts (.fieldLink RX9 15 "LimbSolver$Whole" "count" "I") (by decide +kernel)
  have hin9 : ∀ w ∈ wsX90, w ∈ wsX9_limbCount := by decide +kernel
  have q_f_RX9_9_Whole_words_I := hts (.fieldLink RX9 9 "LimbSolver$Whole" "words" "[I") (by decide +kernel)
  have q_initialized_RX10 := hts (.initialized RX10) (by decide +kernel)
  have q_static_yX10_spareBits := hts (.static yX10_spareBits) (by decide +kernel)
  have hl : lv_has ls 2 [(0, .ref (a))] := hl
  have hr1 := h1.1
  refine lv_aload_n hx hb dX9_limbCount_0 rfl (lv_at hl 0 rfl) ?_
  refine va_get (D := D) (ci := 9) (v := .int (iZ (((n : Nat) : Int)))) (C := RX9) (T := TX9) (N := 2) hx hb hts hin9 hown hK hP 0 rfl rfl 1 (by decide) q_f_RX9_15_Whole_count_I (fun _ h9 => h9) rfl dX9_limbCount_1 ?_
  refine zr_if_ne hx hb 9 ⟨by omega, by omega⟩ dX9_limbCount_4 (by decide) (fun h_4 => ?_) (fun h_4 => ?_)
  · refine lv_aload_n hx hb dX9_limbCount_9 rfl (lv_at hl 0 rfl) ?_
    refine va_get (D := D) (ci := 9) (v := .int (iZ (((n : Nat) : Int)))) (C := RX9) (T := TX9) (N := 2) hx hb hts hin9 hown hK hP 0 rfl rfl 1 (by decide) q_f_RX9_15_Whole_count_I (fun _ h9 => h9) rfl dX9_limbCount_10 ?_
    refine lv_bipush (v := iZ 31) hx hb dX9_limbCount_13 (by decide) ?_
    refine zr_imul hx hb dX9_limbCount_15 ?_
    have bt := h1.2.1 (n - 1) (by omega)
    have ht := h1.2.2.1 (by omega)
    refine lv_aload_n hx hb dX9_limbCount_16 rfl (lv_at hl 0 rfl) ?_
    refine va_get (D := D) (ci := 9) (v := .ref (w)) (C := RX9) (T := TX9) (N := 2) hx hb hts hin9 hown hK hP 0 rfl rfl 0 (by decide) q_f_RX9_9_Whole_words_I (fun _ h9 => h9) rfl dX9_limbCount_17 ?_
    refine lv_aload_n hx hb dX9_limbCount_20 rfl (lv_at hl 0 rfl) ?_
    refine va_get (D := D) (ci := 9) (v := .int (iZ (((n : Nat) : Int)))) (C := RX9) (T := TX9) (N := 2) hx hb hts hin9 hown hK hP 0 rfl rfl 1 (by decide) q_f_RX9_15_Whole_count_I (fun _ h9 => h9) rfl dX9_limbCount_21 ?_
    refine lv_iconst (v := iZ 1) hx hb dX9_limbCount_24 rfl ?_
    refine zr_isub hx hb dX9_limbCount_25 ?_
    refine zr_iald hx hb hK hP 1 0 rfl rfl (n - 1) (by omega) (by omega) (by omega) dX9_limbCount_26 ?_
    refine zc_SNi (As := [.int (iZ ((d) (n - 1)))]) (rest := [.int (iZ ((((n : Nat) : Int)) * (31)))]) (wr := [(a, .inr (9, [.ref (w), .int (iZ (((n : Nat) : Int)))])), (w, aI cI (room) (d))]) ⟨hx, hb, hml, hown, hts⟩ (c_spareBits l D cI cJ cE cF cR (d (n - 1)) ⟨by omega, by omega⟩) ⟨va_cnB 1 hts gX9_limbCount_X10_spareBits_n31 rfl rfl rfl (hN.M 6 rfl) q_initialized_RX10 (by decide +kernel) ⟨Nat.le_of_ble_eq_true rfl, Nat.le_of_ble_eq_true rfl⟩, q_static_yX10_spareBits, trivial⟩ hN hK hP hD hS hA [] [0, 1] rfl rfl (by decide) (by decide) (by decide) rfl hl.1 (Nat.le_of_ble_eq_true rfl) dX9_limbCount_27 ⟨by decide, by decide⟩ (fun z27 w1 H locs hz27 hp hP hD hS => ?_)
    obtain ⟨hw1, q, hq, hq1, hq2, hq3⟩ := hp
    subst hw1
    subst hq
    have hP := hP.sub (ws' := [(a, .inr (9, [.ref (w), .int (iZ (((n : Nat) : Int)))])), (w, aI cI (room) (d))]) [0, 1] rfl
    have hD := hD.sub (ws' := [(a, .inr (9, [.ref (w), .int (iZ (((n : Nat) : Int)))])), (w, aI cI (room) (d))]) [0, 1] (by decide) rfl
    refine zr_isub hx hb dX9_limbCount_30 ?_
    refine lv_istore_n (lv' := [(1, .int (iZ (((((n : Nat) : Int)) * (31)) - (((q : Nat) : Int))))), (0, .ref (a))]) hx hb dX9_limbCount_31 rfl hl (by decide) rfl (fun ls hl => ?_)
    refine lv_iload_n hx hb dX9_limbCount_32 rfl (lv_at hl 0 rfl) ?_
    refine lv_bipush (v := iZ 16) hx hb dX9_limbCount_33 (by decide) ?_
    refine zr_iadd hx hb dX9_limbCount_35 ?_
    refine lv_iconst (v := iZ 1) hx hb dX9_limbCount_36 rfl ?_
    refine zr_isub hx hb dX9_limbCount_37 ?_
    refine lv_bipush (v := iZ 16) hx hb dX9_limbCount_38 (by decide) ?_
    refine zr_idiv hx hb ⟨by omega, by omega⟩ ⟨by omega, by omega⟩ (by omega) (by omega) dX9_limbCount_40 ?_
    exact zr_iret hQ hx hb hr hlk dX9_limbCount_41 hK hP hD hS (by omega) (by omega) ⟨by omega, by omega⟩ (⟨rfl, (31 * n - q + 15) / 16, by omega, by obtain ⟨m, rfl⟩ : ∃ m, n = m + 1 := ⟨n - 1, by omega⟩; obtain ⟨c1, c2⟩ := bg_bits h1 hq1 hq2 hq3; exact bg_lc_bits (by omega) c1 c2⟩)
  · refine lv_iconst (v := iZ 0) hx hb dX9_limbCount_7 rfl ?_
    exact zr_iret hQ hx hb hr hlk dX9_limbCount_8 hK hP hD hS (by omega) (by omega) ⟨by omega, by omega⟩ (⟨rfl, 0, rfl, by rw [(bg_ok_zero h1).mpr (by omega)]; exact ⟨by decide, fun q => absurd q (Nat.lt_irrefl 0)⟩⟩)

set_option maxHeartbeats 4000000 in
set_option maxRecDepth 100000 in
/-- Whole.limb -/
theorem c_limb (l : Launch) (D : va_G) (cI cJ cE cF cR : ClassId) (a w room n : Nat) (d : Nat → Int) (v1 : Int) (z : Int) (hz0 : iR z) (h1 : bg_ok d n room v1) (hroom : room ≤ 1000) : Ci l D (zty cI cJ cE cF cR) yX9_limb wsX9_limb (zRm 2 44) 0 0 [.ref (a), .int (iZ (z))] [(a, .inr (9, [.ref (w), .int (iZ (((n : Nat) : Int)))])), (w, aI cI (room) (d))] (fun r w1 => w1 = [(a, .inr (9, [.ref (w), .int (iZ (((n : Nat) : Int)))])), (w, aI cI (room) (d))] ∧ (((z < 0 ∨ ∃ x : Nat, bg_lc v1 x ∧ (x : Int) ≤ z) ∧ r = -1) ∨ ∃ (kk x : Nat), z = kk ∧ bg_lc v1 x ∧ kk < x ∧ r = v1 / bg_t (16 * kk) % 65536)) := by
  unfold Ci
  refine zs (Qc := zQi D _ _) (cc := cX9_limb) (maxL := 6) (ret := (some .int)) (by decide) rfl (Nat.le_of_ble_eq_true rfl) ?_
  intro zp ze s zm below meth zc ls A args Q hQ hx hb hr hts hown hlk hml hnm hN hA hK hP hD hS hl
  have q_constant_RX9_38_65535 := hts (.constant RX9 38 (65535)) (by decide +kernel)
  have hl : lv_has ls 6 [(0, .ref (a)), (1, .int (iZ (z)))] := hl
  have hr1 := h1.1
  have main : ∀ (kk x : Nat), bg_lc v1 x → x ≤ 2 * n → kk < x → z = kk → ∀ (H : Heap) (locs : List Loc) (ls : Array Slot), va_P D vwCl [(a, .inr (9, [.ref (w), .int (iZ (((n : Nat) : Int)))])), (w, aI cI (room) (d))] H → va_D A [(a, .inr (9, [.ref (w), .int (iZ (((n : Nat) : Int)))])), (w, aI cI (room) (d))] → va_S A s.heap H locs → lv_has ls 6 [(0, .ref (a)), (1, .int (iZ (((kk : Nat) : Int))))] → W zp l ze (zRm 2 44) s zm args below meth zc H locs 0 0 Q (F0 zm 14 ls []) := by
    intro kk x hx1 hxn hkx hz H locs ls hP hD hS hl
    refine lv_iload_n hx hb dX9_limb_14 rfl (lv_at hl 1 rfl) ?_
    refine lv_bipush (v := iZ 16) hx hb dX9_limb_15 (by decide) ?_
    refine zr_imul hx hb dX9_limb_17 ?_
    refine zr_eqi (((16 * kk : Nat) : Int)) (by omega) ?_
    refine lv_istore_n (lv' := [(2, .int (iZ (((16 * kk : Nat) : Int)))), (0, .ref (a)), (1, .int (iZ (((kk : Nat) : Int))))]) hx hb dX9_limb_18 rfl hl (by decide) rfl (fun ls hl => ?_)
    refine lv_iload_n hx hb dX9_limb_19 rfl (lv_at hl 0 rfl) ?_
    refine lv_bipush (v := iZ 31) hx hb dX9_limb_20 (by decide) ?_
    refine zr_idiv hx hb ⟨by omega, by omega⟩ ⟨by omega, by omega⟩ (by omega) (by omega) dX9_limb_22 ?_
    refine zr_eqi (((16 * kk / 31 : Nat) : Int)) (by omega) ?_
    refine lv_istore_n (lv' := [(3, .int (iZ (((16 * kk / 31 : Nat) : Int)))), (2, .int (iZ (((16 * kk : Nat) : Int)))), (0, .ref (a)), (1, .int (iZ (((kk : Nat) : Int))))]) hx hb dX9_limb_23 rfl hl (by decide) rfl (fun ls hl => ?_)
    refine lv_aload_n hx hb dX9_limb_24 rfl (lv_at hl 2 rfl) ?_
    refine lv_iload_n hx hb dX9_limb_25 rfl (lv_at hl 0 rfl) ?_
    refine lv_iconst (v := iZ 1) hx hb dX9_limb_26 rfl ?_
    refine zr_iadd hx hb dX9_limb_27 ?_
    refine zr_eqi (((16 * kk / 31 + 1 : Nat) : Int)) (by omega) ?_
    refine zc_Vi (As := [.int (iZ (((16 * kk / 31 + 1 : Nat) : Int)))]) (rest := []) (wr := []) ⟨hx, hb, hml, hown, hts⟩ (c_wordAt l D cI cJ cE cF cR a w room n d ((16 * kk / 31 + 1 : Nat) : Int) ⟨by omega, by omega⟩ h1.1 (by omega) h1.2.1) (cwV 1 hts gX9_limb_X9_wordAt rfl rfl rfl (by decide +kernel) ⟨Nat.le_of_ble_eq_true rfl, Nat.le_of_ble_eq_true rfl⟩) hN hK hP hD hS hA [0, 1] [] rfl rfl (by decide) (by decide) (by decide) (q0 := 0) (ci := 9) rfl rfl rfl rfl hl.1 (Nat.le_of_ble_eq_true rfl) dX9_limb_28 ⟨by decide, by decide⟩ (fun z28 w1 H locs hz28 hp hP hD hS => ?_)
    obtain ⟨hw1, hx0⟩ := hp
    subst hw1
    subst hx0
    have hP := hP.sub (ws' := [(a, .inr (9, [.ref (w), .int (iZ (((n : Nat) : Int)))])), (w, aI cI (room) (d))]) [0, 1] rfl
    have hD := hD.sub (ws' := [(a, .inr (9, [.ref (w), .int (iZ (((n : Nat) : Int)))])), (w, aI cI (room) (d))]) [0, 1] (by decide) rfl
    have b1 := bg_at_dg h1.2.1 (16 * kk / 31 + 1)
    have b0 := bg_at_dg h1.2.1 (16 * kk / 31)
    refine zr_i2l hx hb ⟨by omega, by omega⟩ dX9_limb_31 ?_
    refine lv_bipush (v := iZ 31) hx hb dX9_limb_32 (by decide) ?_
    refine zr_lshl31 hx hb dX9_limb_34 ?_
    refine lv_aload_n hx hb dX9_limb_35 rfl (lv_at hl 2 rfl) ?_
    refine lv_iload_n hx hb dX9_limb_36 rfl (lv_at hl 0 rfl) ?_
    refine zc_Vi (As := [.int (iZ (((16 * kk / 31 : Nat) : Int)))]) (rest := [.long (lZ ((bg_at d n ((16 * kk / 31 + 1 : Nat) : Int)) * 2147483648))]) (wr := []) ⟨hx, hb, hml, hown, hts⟩ (c_wordAt l D cI cJ cE cF cR a w room n d ((16 * kk / 31 : Nat) : Int) ⟨by omega, by omega⟩ h1.1 (by omega) h1.2.1) (cwV 1 hts gX9_limb_X9_wordAt rfl rfl rfl (by decide +kernel) ⟨Nat.le_of_ble_eq_true rfl, Nat.le_of_ble_eq_true rfl⟩) hN hK hP hD hS hA [0, 1] [] rfl rfl (by decide) (by decide) (by decide) (q0 := 0) (ci := 9) rfl rfl rfl rfl hl.1 (Nat.le_of_ble_eq_true rfl) dX9_limb_37 ⟨by decide, by decide⟩ (fun z37 w1 H locs hz37 hp hP hD hS => ?_)
    obtain ⟨hw1, hx0⟩ := hp
    subst hw1
    subst hx0
    have hP := hP.sub (ws' := [(a, .inr (9, [.ref (w), .int (iZ (((n : Nat) : Int)))])), (w, aI cI (room) (d))]) [0, 1] rfl
    have hD := hD.sub (ws' := [(a, .inr (9, [.ref (w), .int (iZ (((n : Nat) : Int)))])), (w, aI cI (room) (d))]) [0, 1] (by decide) rfl
    refine zr_i2l hx hb ⟨by omega, by omega⟩ dX9_limb_40 ?_
    refine zr_lor31 hx hb (by omega) (by omega) dX9_limb_41 ?_
    refine lv_lstore (lv' := [(4, .long (lZ ((bg_at d n ((16 * kk / 31 + 1 : Nat) : Int)) * 2147483648 + (bg_at d n ((16 * kk / 31 : Nat) : Int))))), (3, .int (iZ (((16 * kk / 31 : Nat) : Int)))), (2, .int (iZ (((16 * kk : Nat) : Int)))), (0, .ref (a)), (1, .int (iZ (((kk : Nat) : Int))))]) hx hb dX9_limb_42 hl (by decide) rfl (fun ls hl => ?_)
    refine lv_lload hx hb dX9_limb_44 (lv_at hl 0 rfl) ?_
    refine lv_iload_n hx hb dX9_limb_46 rfl (lv_at hl 2 rfl) ?_
    refine lv_bipush (v := iZ 31) hx hb dX9_limb_47 (by decide) ?_
    refine zr_irem hx hb ⟨by omega, by omega⟩ ⟨by omega, by omega⟩ (by omega) (by omega) dX9_limb_49 ?_
    refine zr_eqi (((16 * kk % 31 : Nat) : Int)) (by omega) ?_
    refine zr_lushr (k := 16 * kk % 31) hx hb ⟨by omega, by omega⟩ (by omega) (by omega) dX9_limb_50 ?_
    refine zr_l2i hx hb dX9_limb_51 ?_
    refine zr_ldc hx hb 65535 (by decide) hown q_constant_RX9_38_65535 dX9_limb_52 ?_
    refine zr_iand hx hb 16 (by decide) (by decide) dX9_limb_54 ?_
    exact zr_iret hQ hx hb hr hlk dX9_limb_55 hK hP hD hS (by omega) (by omega) ⟨by omega, by omega⟩ (⟨rfl, Or.inr ⟨kk, x, hz, hx1, hkx, bg_limb h1⟩⟩)
  refine lv_iload_n hx hb dX9_limb_0 rfl (lv_at hl 1 rfl) ?_
  refine zr_if_lt hx hb 12 ⟨by omega, by omega⟩ dX9_limb_1 (by decide) (fun h_1 => ?_) (fun h_1 => ?_)
  · refine lv_iconst (v := iZ (-1)) hx hb dX9_limb_12 rfl ?_
    exact zr_iret hQ hx hb hr hlk dX9_limb_13 hK hP hD hS (by omega) (by omega) (by decide) (⟨rfl, Or.inl ⟨by first | exact Or.inl (by omega) | exact Or.inr ⟨x, hx1, by omega⟩, rfl⟩⟩)
  · refine lv_iload_n hx hb dX9_limb_4 rfl (lv_at hl 1 rfl) ?_
    refine lv_aload_n hx hb dX9_limb_5 rfl (lv_at hl 0 rfl) ?_
    refine zc_Vi (As := []) (rest := [.int (iZ (z))]) (wr := []) ⟨hx, hb, hml, hown, hts⟩ (c_limbCount l D cI cJ cE cF cR a w room n d v1 h1 hroom) (cwV 0 hts gX9_limb_X9_limbCount rfl rfl rfl (by decide +kernel) ⟨Nat.le_of_ble_eq_true rfl, Nat.le_of_ble_eq_true rfl⟩) hN hK hP hD hS hA [0, 1] [] rfl rfl (by decide) (by decide) (by decide) (q0 := 0) (ci := 9) rfl rfl rfl rfl hl.1 (Nat.le_of_ble_eq_true rfl) dX9_limb_6 ⟨by decide, by decide⟩ (fun z6 w1 H locs hz6 hp hP hD hS => ?_)
    obtain ⟨hw1, x, hx0, hx1⟩ := hp
    subst hw1
    subst hx0
    have hxn := bg_lc_le h1 hx1
    have hP := hP.sub (ws' := [(a, .inr (9, [.ref (w), .int (iZ (((n : Nat) : Int)))])), (w, aI cI (room) (d))]) [0, 1] rfl
    have hD := hD.sub (ws' := [(a, .inr (9, [.ref (w), .int (iZ (((n : Nat) : Int)))])), (w, aI cI (room) (d))]) [0, 1] (by decide) rfl
    refine zr_icmp_lt hx hb 14 ⟨by omega, by omega⟩ ⟨by omega, by omega⟩ dX9_limb_9 (by decide) (fun h_9 => ?_) (fun h_9 => ?_)
    · obtain ⟨kk, rfl⟩ : ∃ kk : Nat, z = kk := ⟨z.toNat, by omega⟩
      exact main kk x hx1 hxn (by omega) rfl H locs ls hP hD hS hl
    · refine lv_iconst (v := iZ (-1)) hx hb dX9_limb_12 rfl ?_
      exact zr_iret hQ hx hb hr hlk dX9_limb_13 hK hP hD hS (by omega) (by omega) (by decide) (⟨rfl, Or.inl ⟨by first | exact Or.inl (by omega) | exact Or.inr ⟨x, hx1, by omega⟩, rfl⟩⟩)
