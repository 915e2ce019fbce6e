theorem lZ_divE {a b : Int} (ha : lR a) (hb : lR b) (b0 : 0 < b) (hd : b ∣ a) : lZ a / lZ b = lZ (a / b) := by
  apply Int64.toInt_inj.mp
  have hne : lZ b ≠ -1 := fun q => by
    have : (lZ b).toInt = (-1 : Int64).toInt := by rw [q]
    rw [lZ_toInt hb] at this
    have : b = -1 := this
    omega
  obtain ⟨k, rfl⟩ := hd
  have e1 : b * k / b = k := Int.mul_ediv_cancel_left k (Int.ne_of_gt b0)
  have hk : lR k := by
    have h1 := ha.1
    have h2 := ha.2
    rcases (show 0 ≤ k ∨ k < 0 by omega) with w | w
    · have : 1 * k ≤ b * k := Int.mul_le_mul_of_nonneg_right (by omega) w
      exact ⟨by omega, by omega⟩
    · have : b * k ≤ 1 * k := Int.mul_le_mul_of_nonpos_right (by omega) (by omega)
      exact ⟨by omega, by omega⟩
  rw [Int64.toInt_div_of_ne_right _ _ hne, lZ_toInt ha, lZ_toInt hb, e1, lZ_toInt hk, Int.mul_tdiv_cancel_left k (Int.ne_of_gt b0)]
section ZR4
variable {p : Program} {l : Launch} {e : Env} {R : Room} {s : State} {m : MethodId} {args : Array Value} {below : List Frame} {meth : Method} {c : Code} {H : Heap} {locs : List Loc} {cells slots : Nat} {Q : State → Prop} {cc : ByteArray} {pc : Nat} {ls : Array Slot} {rest : List Value}
theorem zr_ldivE (hx : p.tables.exec = Jvm.exec) (hb : c.code = cc) {x y : Int} (rx : lR x) (ry : lR y) (y0 : 0 < y) (hdv : y ∣ x) (hd : decode cc pc = .ok (.ldiv, 1)) (k : W p l e R s m args below meth c H locs cells slots Q (F0 m (pc + 1) ls (.long (lZ (x / y)) :: rest))) : W p l e R s m args below meth c H locs cells slots Q (F0 m pc ls (.long (lZ y) :: .long (lZ x) :: rest)) := lv_ldiv hx hb hd (fun q => by rw [show (0 : Int64) = lZ 0 from rfl, lZ_eq ry (by decide)] at q; omega) (by rw [lZ_divE rx ry y0 hdv]; exact k)
end ZR4
/-- the limbs of the numbers of a place -/
def eq_lc (a b : Nat → Int) (j r : Nat) : Prop := ∃ x y : Nat, bg_lc ((a j).natAbs : Int) x ∧ bg_lc (b j) y ∧ r = x + y
/-- .. of the first c places of row i, of the first i rows -/
def eq_row (a b : Nat → Int) (i : Nat) : Nat → Nat → Prop
  | 0, r => r = 0
  | c + 1, r => ∃ r1 r2 : Nat, eq_row a b i c r1 ∧ eq_lc a b (7 * i + c) r2 ∧ r = r1 + r2
def eq_all (a b : Nat → Int) (n : Nat) : Nat → Nat → Prop
  | 0, r => r = 0
  | i + 1, r => ∃ r1 r2 : Nat, eq_all a b n i r1 ∧ eq_row a b i (n + 1) r2 ∧ r = r1 + r2
/-- what was told: numbers within their bounds -/
def eq_ok (a b : Nat → Int) : Prop := ∀ j, j < 42 → (-2147483648 ≤ a j ∧ a j ≤ 2147483648) ∧ (1 ≤ b j ∧ b j ≤ 2147483648)
theorem eq_lc_le {a b : Nat → Int} {j r : Nat} (h : eq_ok a b) (hj : j < 42) (hr : eq_lc a b j r) : r ≤ 4 := by
  obtain ⟨x, y, h1, h2, h3⟩ := hr
  have := h j hj
  have e : bg_t (16 * 2) = 4294967296 := by decide
  have a1 := bg_lc_bound h1 (by omega) (m := 2) (by omega)
  have a2 := bg_lc_bound h2 (by omega) (m := 2) (by omega)
  omega
theorem lo_step {z v : Int} {i : Nat} (hz : z = v / bg_t (16 * i)) : z / 65536 = v / bg_t (16 * (i + 1)) := by
  rw [hz, show 16 * (i + 1) = 16 * i + 16 by omega, bg_t_add, ← Int.ediv_ediv_of_nonneg (Int.le_of_lt (bg_t_pos _))]
  rfl
theorem lo_end {v : Int} {i : Nat} (h0 : 0 ≤ v) (hz : v / bg_t (16 * i) ≤ 0) (hp : 0 < i → 0 < v / bg_t (16 * (i - 1))) : bg_lc v i := by
  refine ⟨?_, fun q => ?_⟩
  · have ht := bg_t_pos (16 * i)
    rcases (show v < bg_t (16 * i) ∨ bg_t (16 * i) ≤ v by omega) with w | w
    · exact w
    · have := Int.le_ediv_of_mul_le ht (show 1 * bg_t (16 * i) ≤ v by omega)
      omega
  · have := hp q
    have ht := bg_t_pos (16 * (i - 1))
    rcases (show bg_t (16 * (i - 1)) ≤ v ∨ v < bg_t (16 * (i - 1)) by omega) with w | w
    · exact w
    · rw [Int.ediv_eq_zero_of_lt h0 w] at this; omega
set_option maxHeartbeats 4000000 in
set_option maxRecDepth 100000 in
/-- Equations.limbsOf -/
theorem c_limbsOf (l : Launch) (D : va_G) (cI cJ cE cF cR : ClassId) (v : Int) (hv : 0 ≤ v ∧ v < 9223372036854775808) : Ci l D (zty cI cJ cE cF cR) yX4_limbsOf wsX4_limbsOf (zRm 0 0) 0 0 [.long (lZ (v))] [] (fun r w1 => w1 = [] ∧ ∃ x : Nat, r = x ∧ bg_lc v x) := by
  unfold Ci
  refine zs (Qc := zQi D _ _) (cc := cX4_limbsOf) (maxL := 5) (ret := (some .int)) (by decide) rfl (Nat.le_of_ble_eq_true rfl) ?_
  intro zp ze s zm below meth zc ls A args Q hQ hx hb hr hts hown hlk hml hnm hN hA hK hP hD hS hl
  have hl : lv_has ls 5 [(0, .long (lZ (v)))] := hl
  have lp : ∀ (t i : Nat) (z : Int) (ls : Array Slot), i + t = 4 → z = v / bg_t (16 * i) → (0 < i → 0 < v / bg_t (16 * (i - 1))) → lv_has ls 5 [(3, .long (lZ (z))), (2, .int (iZ (((i : Nat) : Int)))), (0, .long (lZ (v)))] → W zp l ze (zRm 0 0) s zm args below meth zc s.heap [] 0 0 Q (F0 zm 4 ls []) := by
    intro t
    induction t with
    | zero =>
      intro i z ls hit hz hpo hl
      have hzr : 0 ≤ z ∧ z ≤ v := by rw [hz]; exact ⟨Int.ediv_nonneg hv.1 (Int.le_of_lt (bg_t_pos _)), Int.ediv_le_self _ hv.1⟩
      refine lv_lload_n hx hb dX4_limbsOf_4 rfl (lv_at hl 0 rfl) ?_
      refine lv_lconst (v := lZ 0) hx hb dX4_limbsOf_5 rfl ?_
      refine zr_lcmp_le hx hb 21 ⟨by omega, by omega⟩ ⟨by omega, by omega⟩ dX4_limbsOf_6 dX4_limbsOf_7 (by decide) (fun h_6 => ?_) (fun h_6 => ?_)
      · refine lv_iload_n hx hb dX4_limbsOf_21 rfl (lv_at hl 1 rfl) ?_
        exact zr_iret hQ hx hb hr hlk dX4_limbsOf_22 hK hP hD hS (by omega) (by omega) ⟨by omega, by omega⟩ (⟨rfl, i, rfl, lo_end hv.1 (by omega) hpo⟩)
      · exfalso; rw [show i = 4 by omega, Int.ediv_eq_zero_of_lt hv.1 (by have e : bg_t (16 * 4) = 18446744073709551616 := (by decide); omega)] at hz; omega
    | succ t ih =>
      intro i z ls hit hz hpo hl
      have hzr : 0 ≤ z ∧ z ≤ v := by rw [hz]; exact ⟨Int.ediv_nonneg hv.1 (Int.le_of_lt (bg_t_pos _)), Int.ediv_le_self _ hv.1⟩
      refine lv_lload_n hx hb dX4_limbsOf_4 rfl (lv_at hl 0 rfl) ?_
      refine lv_lconst (v := lZ 0) hx hb dX4_limbsOf_5 rfl ?_
      refine zr_lcmp_le hx hb 21 ⟨by omega, by omega⟩ ⟨by omega, by omega⟩ dX4_limbsOf_6 dX4_limbsOf_7 (by decide) (fun h_6 => ?_) (fun h_6 => ?_)
      · refine lv_iload_n hx hb dX4_limbsOf_21 rfl (lv_at hl 1 rfl) ?_
        exact zr_iret hQ hx hb hr hlk dX4_limbsOf_22 hK hP hD hS (by omega) (by omega) ⟨by omega, by omega⟩ (⟨rfl, i, rfl, lo_end hv.1 (by omega) hpo⟩)
      · refine lv_iinc (v := iZ (((i + 1 : Nat) : Int))) (lv' := [(2, .int (iZ (((i + 1 : Nat) : Int)))), (3, .long (lZ (z))), (0, .long (lZ (v)))]) hx hb dX4_limbsOf_10 hl (k := 1) rfl (by rw [show ((i + 1 : Nat) : Int) = ((i : Nat) : Int) + 1 by omega]; exact iZ_add _ _) (by decide) rfl (fun ls hl => ?_)
        refine lv_lload_n hx hb dX4_limbsOf_13 rfl (lv_at hl 1 rfl) ?_
        refine lv_bipush (v := iZ 16) hx hb dX4_limbsOf_14 (by decide) ?_
        refine zr_lshr (k := 16) hx hb ⟨by omega, by omega⟩ (by omega) dX4_limbsOf_16 ?_
        refine zr_eql (z / 65536) (by rfl) ?_
        refine lv_lstore_n (lv' := [(3, .long (lZ (z / 65536))), (2, .int (iZ (((i + 1 : Nat) : Int)))), (0, .long (lZ (v)))]) hx hb dX4_limbsOf_17 rfl hl (by decide) rfl (fun ls hl => ?_)
        refine lv_goto (tgt := 4) hx hb dX4_limbsOf_18 (by decide) ?_
        exact ih (i + 1) (z / 65536) ls (by omega) (lo_step hz) (fun _ => by rw [Nat.add_sub_cancel, ← hz]; omega) (lv_sub hl [0, 1, 2] rfl)
  refine lv_iconst (v := iZ 0) hx hb dX4_limbsOf_0 rfl ?_
  refine lv_istore_n (lv' := [(2, .int (iZ (0))), (0, .long (lZ (v)))]) hx hb dX4_limbsOf_1 rfl hl (by decide) rfl (fun ls hl => ?_)
  refine lv_lload_n hx hb dX4_limbsOf_2 rfl (lv_at hl 1 rfl) ?_
  refine lv_lstore_n (lv' := [(3, .long (lZ (v))), (2, .int (iZ (0))), (0, .long (lZ (v)))]) hx hb dX4_limbsOf_3 rfl hl (by decide) rfl (fun ls hl => ?_)
  exact lp 4 0 v ls (by omega) (by rw [Nat.mul_zero, bg_t0, Int.ediv_one]) (fun q => absurd q (Nat.lt_irrefl 0)) (lv_sub hl [0, 1, 2] rfl)

set_option maxHeartbeats 4000000 in
set_option maxRecDepth 100000 in
/-- Equations.restart -/
theorem c_restart (l : Launch) (D : va_G) (cI cJ cE cF cR : ClassId) (eq nu de : Nat) (n0 k : Int) (a b : Nat → Int) : Cv l D (zty cI cJ cE cF cR) yX4_restart wsX4_restart (zRm 0 0) 0 0 [.ref (eq), .int (iZ (k))] [(eq, .inr (4, [.ref (nu), .ref (de), .int (iZ (n0))])), (nu, aJ cJ (42) (a)), (de, aJ cJ (42) (b))] (fun w1 => ∃ x y : Nat → Int, w1 = [(eq, .inr (4, [.ref (nu), .ref (de), .int (iZ (k))])), (nu, aJ cJ (42) (x)), (de, aJ cJ (42) (y))] ∧ ∀ j : Nat, j < 42 → x j = 0 ∧ y j = 1) := by
  unfold Cv
  refine zs (Qc := zQv D _ _) (cc := cX4_restart) (maxL := 3) (ret := none) (by decide) rfl (Nat.le_of_ble_eq_true rfl) ?_
  intro zp ze s zm below meth zc ls A args Q hQ hx hb hr hts hown hlk hml hnm hN hA hK hP hD hS hl
  have q_f_RX4_9_Equations_nums_J := hts (.fieldLink RX4 9 "LimbSolver$Equations" "nums" "[J") (by decide +kernel)
  have hin4 : ∀ w ∈ wsX40, w ∈ wsX4_restart := by decide +kernel
  have q_f_RX4_15_Equations_dens_J := hts (.fieldLink RX4 15 "LimbSolver$Equations" "dens" "[J") (by decide +kernel)
  have q_f_RX4_22_Equations_n_I := hts (.fieldLink RX4 22 "LimbSolver$Equations" "n" "I") (by decide +kernel)
  have hl : lv_has ls 3 [(0, .ref (eq)), (1, .int (iZ (k)))] := hl
  have lp : ∀ (t : Nat) (i : Nat) (x : Nat → Int) (y : Nat → Int) (H : Heap) (locs : List Loc) (ls : Array Slot), (i + t = 42) → (∀ j : Nat, j < i → x j = 0 ∧ y j = 1) →  va_P D vwCl [(eq, .inr (4, [.ref (nu), .ref (de), .int (iZ (k))])), (nu, aJ cJ (42) (x)), (de, aJ cJ (42) (y))] H → va_D A [(eq, .inr (4, [.ref (nu), .ref (de), .int (iZ (k))])), (nu, aJ cJ (42) (x)), (de, aJ cJ (42) (y))] → va_S A s.heap H locs → lv_has ls 3 [(2, .int (iZ (((i : Nat) : Int)))), (0, .ref (eq)), (1, .int (iZ (k)))] → W zp l ze (zRm 0 0) s zm args below meth zc H locs 0 0 Q (F0 zm 7 ls []) := by
    intro t
    induction t with
    | zero =>
      intro i x y H locs ls hit hx0 hP hD hS hl
      refine lv_iload_n hx hb dX4_restart_7 rfl (lv_at hl 0 rfl) ?_
      refine lv_aload_n hx hb dX4_restart_8 rfl (lv_at hl 1 rfl) ?_
      refine va_get (D := D) (ci := 4) (v := .ref (nu)) (C := RX4) (T := TX4) (N := 3) hx hb hts hin4 hown hK hP 0 rfl rfl 0 (by decide) q_f_RX4_9_Equations_nums_J (fun _ h9 => h9) rfl dX4_restart_9 ?_
      refine zr_alen hx hb hK hP 1 1 rfl rfl dX4_restart_12 ?_
      refine zr_icmp_ge hx hb 45 ⟨by omega, by omega⟩ ⟨by omega, by omega⟩ dX4_restart_13 (by decide) (fun h_13 => ?_) (fun h_13 => ?_)
      · exact zr_vret hQ hx hb hr hlk dX4_restart_45 hK hP hD hS (by omega) (by omega) (⟨x, y, rfl, fun j hj => hx0 j (by omega)⟩)
      · exfalso; omega
    | succ t ih =>
      intro i x y H locs ls hit hx0 hP hD hS hl
      refine lv_iload_n hx hb dX4_restart_7 rfl (lv_at hl 0 rfl) ?_
      refine lv_aload_n hx hb dX4_restart_8 rfl (lv_at hl 1 rfl) ?_
      refine va_get (D := D) (ci := 4) (v := .ref (nu)) (C := RX4) (T := TX4) (N := 3) hx hb hts hin4 hown hK hP 0 rfl rfl 0 (by decide) q_f_RX4_9_Equations_nums_J (fun _ h9 => h9) rfl dX4_restart_9 ?_
      refine zr_alen hx hb hK hP 1 1 rfl rfl dX4_restart_12 ?_
      refine zr_icmp_ge hx hb 45 ⟨by omega, by omega⟩ ⟨by omega, by omega⟩ dX4_restart_13 (by decide) (fun h_13 => ?_) (fun h_13 => ?_)
      · exfalso; omega
      · refine lv_iload_n hx hb dX4_restart_16 rfl (lv_at hl 0 rfl) ?_
        refine lv_aload_n hx hb dX4_restart_17 rfl (lv_at hl 1 rfl) ?_
        refine va_get (D := D) (ci := 4) (v := .ref (de)) (C := RX4) (T := TX4) (N := 3) hx hb hts hin4 hown hK hP 0 rfl rfl 1 (by decide) q_f_RX4_15_Equations_dens_J (fun _ h9 => h9) rfl dX4_restart_18 ?_
        refine zr_alen hx hb hK hP 2 1 rfl rfl dX4_restart_21 ?_
        refine zr_icmp_ge hx hb 45 ⟨by omega, by omega⟩ ⟨by omega, by omega⟩ dX4_restart_22 (by decide) (fun h_22 => ?_) (fun h_22 => ?_)
        · exfalso; omega
        · refine lv_aload_n hx hb dX4_restart_25 rfl (lv_at hl 1 rfl) ?_
          refine va_get (D := D) (ci := 4) (v := .ref (nu)) (C := RX4) (T := TX4) (N := 3) hx hb hts hin4 hown hK hP 0 rfl rfl 0 (by decide) q_f_RX4_9_Equations_nums_J (fun _ h9 => h9) rfl dX4_restart_26 ?_
          refine lv_iload_n hx hb dX4_restart_29 rfl (lv_at hl 0 rfl) ?_
          refine lv_lconst (v := lZ 0) hx hb dX4_restart_30 rfl ?_
          refine zr_last hx hb hK hP hD hS 1 1 rfl rfl (i) (by omega) (by omega) (by omega) dX4_restart_31 (fun H locs hP hD hS => ?_)
          have hP : va_P D vwCl [(eq, .inr (4, [.ref (nu), .ref (de), .int (iZ (k))])), (nu, aJ cJ (42) (zu (x) (i) (0))), (de, aJ cJ (42) (y))] H := hP
          have hD : va_D A [(eq, .inr (4, [.ref (nu), .ref (de), .int (iZ (k))])), (nu, aJ cJ (42) (zu (x) (i) (0))), (de, aJ cJ (42) (y))] := hD
          refine lv_aload_n hx hb dX4_restart_32 rfl (lv_at hl 1 rfl) ?_
          refine va_get (D := D) (ci := 4) (v := .ref (de)) (C := RX4) (T := TX4) (N := 3) hx hb hts hin4 hown hK hP 0 rfl rfl 1 (by decide) q_f_RX4_15_Equations_dens_J (fun _ h9 => h9) rfl dX4_restart_33 ?_
          refine lv_iload_n hx hb dX4_restart_36 rfl (lv_at hl 0 rfl) ?_
          refine lv_lconst (v := lZ 1) hx hb dX4_restart_37 rfl ?_
          refine zr_last hx hb hK hP hD hS 2 1 rfl rfl (i) (by omega) (by omega) (by omega) dX4_restart_38 (fun H locs hP hD hS => ?_)
          have hP : va_P D vwCl [(eq, .inr (4, [.ref (nu), .ref (de), .int (iZ (k))])), (nu, aJ cJ (42) (zu (x) (i) (0))), (de, aJ cJ (42) (zu (y) (i) (1)))] H := hP
          have hD : va_D A [(eq, .inr (4, [.ref (nu), .ref (de), .int (iZ (k))])), (nu, aJ cJ (42) (zu (x) (i) (0))), (de, aJ cJ (42) (zu (y) (i) (1)))] := hD
          refine lv_iinc (v := iZ (((i + 1 : Nat) : Int))) (lv' := [(2, .int (iZ (((i + 1 : Nat) : Int)))), (0, .ref (eq)), (1, .int (iZ (k)))]) hx hb dX4_restart_39 hl (k := 0) rfl (by rw [show ((i + 1 : Nat) : Int) = ((i : Nat) : Int) + 1 by omega]; exact iZ_add _ _) (by decide) rfl (fun ls hl => ?_)
          refine lv_goto (tgt := 7) hx hb dX4_restart_42 (by decide) ?_
          exact ih (i + 1) _ _ H locs ls (by omega) (fun j hj => by by_cases q : j = i; (subst q; rw [zu_s, zu_s]; exact ⟨rfl, rfl⟩); (rw [zu_n x 0 q, zu_n y 1 q]; exact hx0 j (by omega))) hP hD hS (lv_sub hl [0, 1, 2] rfl)
  refine lv_aload_n hx hb dX4_restart_0 rfl (lv_at hl 0 rfl) ?_
  refine lv_iload_n hx hb dX4_restart_1 rfl (lv_at hl 1 rfl) ?_
  refine va_put (D := D) (ci := 4) (v := .int (iZ (k))) (ty := tyX4 2) (C := RX4) (T := TX4) (N := 3) hx hb hts hin4 tyX4 tyX4_ok nmX4 hown hK hP hD hS 0 rfl rfl 2 (by decide) q_f_RX4_22_Equations_n_I (fun _ h9 => h9) rfl (tyX4_ok 2 (by decide)) rfl rfl (Nat.le_of_ble_eq_true rfl) dX4_restart_2 (fun H locs hP hD hS => ?_)
  have hP : va_P D vwCl [(eq, .inr (4, [.ref (nu), .ref (de), .int (iZ (k))])), (nu, aJ cJ (42) (a)), (de, aJ cJ (42) (b))] H := hP
  have hD : va_D A [(eq, .inr (4, [.ref (nu), .ref (de), .int (iZ (k))])), (nu, aJ cJ (42) (a)), (de, aJ cJ (42) (b))] := hD
  refine lv_iconst (v := iZ 0) hx hb dX4_restart_5 rfl ?_
  refine lv_istore_n (lv' := [(2, .int (iZ (0))), (0, .ref (eq)), (1, .int (iZ (k)))]) hx hb dX4_restart_6 rfl hl (by decide) rfl (fun ls hl => ?_)
  exact lp 42 0 a b H locs ls (by omega) (fun j hj => absurd hj (Nat.not_lt_zero j)) hP hD hS (lv_sub hl [0, 1, 2] rfl)

set_option maxHeartbeats 4000000 in
set_option maxRecDepth 100000 in
/-- Equations.hasRow -/
theorem c_hasRow (l : Launch) (D : va_G) (cI cJ cE cF cR : ClassId) (eq nu de n : Nat) (z : Int) (hz : iR z) (hn : n ≤ 6) : Ci l D (zty cI cJ cE cF cR) yX4_hasRow wsX4_hasRow (zRm 0 0) 0 0 [.ref (eq), .int (iZ (z))] [(eq, .inr (4, [.ref (nu), .ref (de), .int (iZ (((n : Nat) : Int)))]))] (fun r w1 => w1 = [(eq, .inr (4, [.ref (nu), .ref (de), .int (iZ (((n : Nat) : Int)))]))] ∧ r = if (0 ≤ z ∧ z < n) then 1 else 0) := by
  unfold Ci
  refine zs (Qc := zQi D _ _) (cc := cX4_hasRow) (maxL := 2) (ret := (some .boolean)) (by decide) rfl (Nat.le_of_ble_eq_true rfl) ?_
  intro zp ze s zm below meth zc ls A args Q hQ hx hb hr hts hown hlk hml hnm hN hA hK hP hD hS hl
  have q_f_RX4_22_Equations_n_I := hts (.fieldLink RX4 22 "LimbSolver$Equations" "n" "I") (by decide +kernel)
  have hin4 : ∀ w ∈ wsX40, w ∈ wsX4_hasRow := by decide +kernel
  have hl : lv_has ls 2 [(0, .ref (eq)), (1, .int (iZ (z)))] := hl
  refine lv_iload_n hx hb dX4_hasRow_0 rfl (lv_at hl 1 rfl) ?_
  refine zr_if_lt hx hb 16 ⟨by omega, by omega⟩ dX4_hasRow_1 (by decide) (fun h_1 => ?_) (fun h_1 => ?_)
  · refine lv_iconst (v := iZ 0) hx hb dX4_hasRow_16 rfl ?_
    exact zr_zret hQ hx hb hr hlk dX4_hasRow_17 hK hP hD hS (by omega) (by omega) (by omega) (⟨rfl, by rw [if_neg (by omega)]⟩)
  · refine lv_iload_n hx hb dX4_hasRow_4 rfl (lv_at hl 1 rfl) ?_
    refine lv_aload_n hx hb dX4_hasRow_5 rfl (lv_at hl 0 rfl) ?_
    refine va_get (D := D) (ci := 4) (v := .int (iZ (((n : Nat) : Int)))) (C := RX4) (T := TX4) (N := 3) hx hb hts hin4 hown hK hP 0 rfl rfl 2 (by decide) q_f_RX4_22_Equations_n_I (fun _ h9 => h9) rfl dX4_hasRow_6 ?_
    refine zr_icmp_ge hx hb 16 ⟨by omega, by omega⟩ ⟨by omega, by omega⟩ dX4_hasRow_9 (by decide) (fun h_9 => ?_) (fun h_9 => ?_)
    · refine lv_iconst (v := iZ 0) hx hb dX4_hasRow_16 rfl ?_
      exact zr_zret hQ hx hb hr hlk dX4_hasRow_17 hK hP hD hS (by omega) (by omega) (by omega) (⟨rfl, by rw [if_neg (by omega)]⟩)
    · refine lv_iconst (v := iZ 1) hx hb dX4_hasRow_12 rfl ?_
      refine lv_goto (tgt := 17) hx hb dX4_hasRow_13 (by decide) ?_
      exact zr_zret hQ hx hb hr hlk dX4_hasRow_17 hK hP hD hS (by omega) (by omega) (by omega) (⟨rfl, by rw [if_pos ⟨by omega, by omega⟩]⟩)

set_option maxHeartbeats 4000000 in
set_option maxRecDepth 100000 in
/-- Equations.hasPlace -/
theorem c_hasPlace (l : Launch) (D : va_G) (cI cJ cE cF cR : ClassId) (eq nu de n : Nat) (z y : Int) (hz : iR z) (hy : iR y) (hn : n ≤ 6) : Ci l D (zty cI cJ cE cF cR) yX4_hasPlace wsX4_hasPlace (zRm 1 21) 0 0 [.ref (eq), .int (iZ (z)), .int (iZ (y))] [(eq, .inr (4, [.ref (nu), .ref (de), .int (iZ (((n : Nat) : Int)))]))] (fun r w1 => w1 = [(eq, .inr (4, [.ref (nu), .ref (de), .int (iZ (((n : Nat) : Int)))]))] ∧ r = if (0 ≤ z ∧ z < n ∧ 0 ≤ y ∧ y ≤ n) then 1 else 0) := by
  unfold Ci
  refine zs (Qc := zQi D _ _) (cc := cX4_hasPlace) (maxL := 3) (ret := (some .boolean)) (by decide) rfl (Nat.le_of_ble_eq_true rfl) ?_
  intro zp ze s zm below meth zc ls A args Q hQ hx hb hr hts hown hlk hml hnm hN hA hK hP hD hS hl
  have q_f_RX4_22_Equations_n_I := hts (.fieldLink RX4 22 "LimbSolver$Equations" "n" "I") (by decide +kernel)
  have hin4 : ∀ w ∈ wsX40, w ∈ wsX4_hasPlace := by decide +kernel
  have hl : lv_has ls 3 [(0, .ref (eq)), (1, .int (iZ (z))), (2, .int (iZ (y)))] := hl
  refine lv_aload_n hx hb dX4_hasPlace_0 rfl (lv_at hl 0 rfl) ?_
  refine lv_iload_n hx hb dX4_hasPlace_1 rfl (lv_at hl 1 rfl) ?_
  refine zc_Vi (As := [.int (iZ (z))]) (rest := []) (wr := []) ⟨hx, hb, hml, hown, hts⟩ (c_hasRow l D cI cJ cE cF cR eq nu de n z hz hn) (cwV 1 hts gX4_hasPlace_X4_hasRow rfl rfl rfl (by decide +kernel) ⟨Nat.le_of_ble_eq_true rfl, Nat.le_of_ble_eq_true rfl⟩) hN hK hP hD hS hA [0] [] rfl rfl (by decide) (by decide) (by decide) (q0 := 0) (ci := 4) rfl rfl rfl rfl hl.1 (Nat.le_of_ble_eq_true rfl) dX4_hasPlace_2 ⟨by decide, by decide⟩ (fun rr w1 H locs hz2 hp hP hD hS => ?_)
  obtain ⟨hw9, hr9⟩ := hp
  subst hw9
  have hr8 : (rr = 1 ∧ 0 ≤ z ∧ z < n) ∨ (rr = 0 ∧ ¬ (0 ≤ z ∧ z < n)) := by
    by_cases q : 0 ≤ z ∧ z < n
    · rw [if_pos q] at hr9; exact Or.inl ⟨hr9, q⟩
    · rw [if_neg q] at hr9; exact Or.inr ⟨hr9, q⟩
  have hP := hP.sub (ws' := [(eq, .inr (4, [.ref (nu), .ref (de), .int (iZ (((n : Nat) : Int)))]))]) [0] rfl
  have hD := hD.sub (ws' := [(eq, .inr (4, [.ref (nu), .ref (de), .int (iZ (((n : Nat) : Int)))]))]) [0] (by decide) rfl
  refine zr_if_eq hx hb 24 ⟨by omega, by omega⟩ dX4_hasPlace_5 (by decide) (fun h_5 => ?_) (fun h_5 => ?_)
  · refine lv_iconst (v := iZ 0) hx hb dX4_hasPlace_24 rfl ?_
    exact zr_zret hQ hx hb hr hlk dX4_hasPlace_25 hK hP hD hS (by omega) (by omega) (by omega) (⟨rfl, by rw [if_neg (by omega)]⟩)
  · refine lv_iload_n hx hb dX4_hasPlace_8 rfl (lv_at hl 2 rfl) ?_
    refine zr_if_lt hx hb 24 ⟨by omega, by omega⟩ dX4_hasPlace_9 (by decide) (fun h_9 => ?_) (fun h_9 => ?_)
    · refine lv_iconst (v := iZ 0) hx hb dX4_hasPlace_24 rfl ?_
      exact zr_zret hQ hx hb hr hlk dX4_hasPlace_25 hK hP hD hS (by omega) (by omega) (by omega) (⟨rfl, by rw [if_neg (by omega)]⟩)
    · refine lv_iload_n hx hb dX4_hasPlace_12 rfl (lv_at hl 2 rfl) ?_
      refine lv_aload_n hx hb dX4_hasPlace_13 rfl (lv_at hl 0 rfl) ?_
      refine va_get (D := D) (ci := 4) (v := .int (iZ (((n : Nat) : Int)))) (C := RX4) (T := TX4) (N := 3) hx hb hts hin4 hown hK hP 0 rfl rfl 2 (by decide) q_f_RX4_22_Equations_n_I (fun _ h9 => h9) rfl dX4_hasPlace_14 ?_
      refine zr_icmp_gt hx hb 24 ⟨by omega, by omega⟩ ⟨by omega, by omega⟩ dX4_hasPlace_17 (by decide) (fun h_17 => ?_) (fun h_17 => ?_)
      · refine lv_iconst (v := iZ 0) hx hb dX4_hasPlace_24 rfl ?_
        exact zr_zret hQ hx hb hr hlk dX4_hasPlace_25 hK hP hD hS (by omega) (by omega) (by omega) (⟨rfl, by rw [if_neg (by omega)]⟩)
      · refine lv_iconst (v := iZ 1) hx hb dX4_hasPlace_20 rfl ?_
        refine lv_goto (tgt := 25) hx hb dX4_hasPlace_21 (by decide) ?_
        exact zr_zret hQ hx hb hr hlk dX4_hasPlace_25 hK hP hD hS (by omega) (by omega) (by omega) (⟨rfl, by rw [if_pos ⟨by omega, by omega, by omega, by omega⟩]⟩)

set_option maxHeartbeats 4000000 in
set_option maxRecDepth 100000 in
/-- Equations.numAt -/
theorem c_numAt (l : Launch) (D : va_G) (cI cJ cE cF cR : ClassId) (eq nu de n i j : Nat) (a : Nat → Int) (hi : i < n) (hj : j ≤ n) (hn : n ≤ 6) (hin : lR (a (7 * i + j))) : Cl l D (zty cI cJ cE cF cR) yX4_numAt wsX4_numAt (zRm 2 43) 0 0 [.ref (eq), .int (iZ (((i : Nat) : Int))), .int (iZ (((j : Nat) : Int)))] [(eq, .inr (4, [.ref (nu), .ref (de), .int (iZ (((n : Nat) : Int)))])), (nu, aJ cJ (42) (a))] (fun r w1 => w1 = [(eq, .inr (4, [.ref (nu), .ref (de), .int (iZ (((n : Nat) : Int)))])), (nu, aJ cJ (42) (a))] ∧ r = a (7 * i + j)) := by
  unfold Cl
  refine zs (Qc := zQl D _ _) (cc := cX4_numAt) (maxL := 3) (ret := (some .long)) (by decide) rfl (Nat.le_of_ble_eq_true rfl) ?_
  intro zp ze s zm below meth zc ls A args Q hQ hx hb hr hts hown hlk hml hnm hN hA hK hP hD hS hl
  have q_f_RX4_9_Equations_nums_J := hts (.fieldLink RX4 9 "LimbSolver$Equations" "nums" "[J") (by decide +kernel)
  have hin4 : ∀ w ∈ wsX40, w ∈ wsX4_numAt := by decide +kernel
  have hl : lv_has ls 3 [(0, .ref (eq)), (1, .int (iZ (((i : Nat) : Int)))), (2, .int (iZ (((j : Nat) : Int))))] := hl
  refine lv_aload_n hx hb dX4_numAt_0 rfl (lv_at hl 0 rfl) ?_
  refine lv_iload_n hx hb dX4_numAt_1 rfl (lv_at hl 1 rfl) ?_
  refine lv_iload_n hx hb dX4_numAt_2 rfl (lv_at hl 2 rfl) ?_
  refine zc_Vi (As := [.int (iZ (((i : Nat) : Int))), .int (iZ (((j : Nat) : Int)))]) (rest := []) (wr := [(nu, aJ cJ (42) (a))]) ⟨hx, hb, hml, hown, hts⟩ (c_hasPlace l D cI cJ cE cF cR eq nu de n ((i : Nat) : Int) ((j : Nat) : Int) ⟨by omega, by omega⟩ ⟨by omega, by omega⟩ hn) (cwV 2 hts gX4_numAt_X4_hasPlace rfl rfl rfl (by decide +kernel) ⟨Nat.le_of_ble_eq_true rfl, Nat.le_of_ble_eq_true rfl⟩) hN hK hP hD hS hA [0] [1] rfl rfl (by decide) (by decide) (by decide) (q0 := 0) (ci := 4) rfl rfl rfl rfl hl.1 (Nat.le_of_ble_eq_true rfl) dX4_numAt_3 ⟨by decide, by decide⟩ (fun z3 w1 H locs hz3 hp hP hD hS => ?_)
  obtain ⟨hw9, hr9⟩ := hp
  subst hw9
  rw [if_pos ⟨by omega, by omega, by omega, by omega⟩] at hr9
  subst hr9
  have hP := hP.sub (ws' := [(eq, .inr (4, [.ref (nu), .ref (de), .int (iZ (((n : Nat) : Int)))])), (nu, aJ cJ (42) (a))]) [1, 0] rfl
  have hD := hD.sub (ws' := [(eq, .inr (4, [.ref (nu), .ref (de), .int (iZ (((n : Nat) : Int)))])), (nu, aJ cJ (42) (a))]) [1, 0] (by decide) rfl
  refine zr_if_eq hx hb 23 ⟨by omega, by omega⟩ dX4_numAt_6 (by decide) (fun h_6 => ?_) (fun h_6 => ?_)
  · exfalso; omega
  · refine lv_aload_n hx hb dX4_numAt_9 rfl (lv_at hl 0 rfl) ?_
    refine va_get (D := D) (ci := 4) (v := .ref (nu)) (C := RX4) (T := TX4) (N := 3) hx hb hts hin4 hown hK hP 0 rfl rfl 0 (by decide) q_f_RX4_9_Equations_nums_J (fun _ h9 => h9) rfl dX4_numAt_10 ?_
    refine lv_iload_n hx hb dX4_numAt_13 rfl (lv_at hl 1 rfl) ?_
    refine lv_bipush (v := iZ 7) hx hb dX4_numAt_14 (by decide) ?_
    refine zr_imul hx hb dX4_numAt_16 ?_
    refine lv_iload_n hx hb dX4_numAt_17 rfl (lv_at hl 2 rfl) ?_
    refine zr_iadd hx hb dX4_numAt_18 ?_
    refine zr_lald hx hb hK hP 1 1 rfl rfl (7 * i + j) (by omega) (by omega) (by omega) dX4_numAt_19 ?_
    refine lv_goto (tgt := 24) hx hb dX4_numAt_20 (by decide) ?_
    exact zr_lret hQ hx hb hr hlk dX4_numAt_24 hK hP hD hS (by omega) (by omega) hin (⟨rfl, rfl⟩)

set_option maxHeartbeats 4000000 in
set_option maxRecDepth 100000 in
/-- Equations.denAt -/
theorem c_denAt (l : Launch) (D : va_G) (cI cJ cE cF cR : ClassId) (eq nu de n i j : Nat) (b : Nat → Int) (hi : i < n) (hj : j ≤ n) (hn : n ≤ 6) (hin : lR (b (7 * i + j))) : Cl l D (zty cI cJ cE cF cR) yX4_denAt wsX4_denAt (zRm 2 43) 0 0 [.ref (eq), .int (iZ (((i : Nat) : Int))), .int (iZ (((j : Nat) : Int)))] [(eq, .inr (4, [.ref (nu), .ref (de), .int (iZ (((n : Nat) : Int)))])), (de, aJ cJ (42) (b))] (fun r w1 => w1 = [(eq, .inr (4, [.ref (nu), .ref (de), .int (iZ (((n : Nat) : Int)))])), (de, aJ cJ (42) (b))] ∧ r = b (7 * i + j)) := by
  unfold Cl
  refine zs (Qc := zQl D _ _) (cc := cX4_denAt) (maxL := 3) (ret := (some .long)) (by decide) rfl (Nat.le_of_ble_eq_true rfl) ?_
  intro zp ze s zm below meth zc ls A args Q hQ hx hb hr hts hown hlk hml hnm hN hA hK hP hD hS hl
  have q_f_RX4_15_Equations_dens_J := hts (.fieldLink RX4 15 "LimbSolver$Equations" "dens" "[J") (by decide +kernel)
  have hin4 : ∀ w ∈ wsX40, w ∈ wsX4_denAt := by decide +kernel
  have hl : lv_has ls 3 [(0, .ref (eq)), (1, .int (iZ (((i : Nat) : Int)))), (2, .int (iZ (((j : Nat) : Int))))] := hl
  refine lv_aload_n hx hb dX4_denAt_0 rfl (lv_at hl 0 rfl) ?_
  refine lv_iload_n hx hb dX4_denAt_1 rfl (lv_at hl 1 rfl) ?_
  refine lv_iload_n hx hb dX4_denAt_2 rfl (lv_at hl 2 rfl) ?_
  refine zc_Vi (As := [.int (iZ (((i : Nat) : Int))), .int (iZ (((j : Nat) : Int)))]) (rest := []) (wr := [(de, aJ cJ (42) (b))]) ⟨hx, hb, hml, hown, hts⟩ (c_hasPlace l D cI cJ cE cF cR eq nu de n ((i : Nat) : Int) ((j : Nat) : Int) ⟨by omega, by omega⟩ ⟨by omega, by omega⟩ hn) (cwV 2 hts gX4_denAt_X4_hasPlace rfl rfl rfl (by decide +kernel) ⟨Nat.le_of_ble_eq_true rfl, Nat.le_of_ble_eq_true rfl⟩) hN hK hP hD hS hA [0] [1] rfl rfl (by decide) (by decide) (by decide) (q0 := 0) (ci := 4) rfl rfl rfl rfl hl.1 (Nat.le_of_ble_eq_true rfl) dX4_denAt_3 ⟨by decide, by decide⟩ (fun z3 w1 H locs hz3 hp hP hD hS => ?_)
  obtain ⟨hw9, hr9⟩ := hp
  subst hw9
  rw [if_pos ⟨by omega, by omega, by omega, by omega⟩] at hr9
  subst hr9
  have hP := hP.sub (ws' := [(eq, .inr (4, [.ref (nu), .ref (de), .int (iZ (((n : Nat) : Int)))])), (de, aJ cJ (42) (b))]) [1, 0] rfl
  have hD := hD.sub (ws' := [(eq, .inr (4, [.ref (nu), .ref (de), .int (iZ (((n : Nat) : Int)))])), (de, aJ cJ (42) (b))]) [1, 0] (by decide) rfl
  refine zr_if_eq hx hb 23 ⟨by omega, by omega⟩ dX4_denAt_6 (by decide) (fun h_6 => ?_) (fun h_6 => ?_)
  · exfalso; omega
  · refine lv_aload_n hx hb dX4_denAt_9 rfl (lv_at hl 0 rfl) ?_
    refine va_get (D := D) (ci := 4) (v := .ref (de)) (C := RX4) (T := TX4) (N := 3) hx hb hts hin4 hown hK hP 0 rfl rfl 1 (by decide) q_f_RX4_15_Equations_dens_J (fun _ h9 => h9) rfl dX4_denAt_10 ?_
    refine lv_iload_n hx hb dX4_denAt_13 rfl (lv_at hl 1 rfl) ?_
    refine lv_bipush (v := iZ 7) hx hb dX4_denAt_14 (by decide) ?_
    refine zr_imul hx hb dX4_denAt_16 ?_
    refine lv_iload_n hx hb dX4_denAt_17 rfl (lv_at hl 2 rfl) ?_
    refine zr_iadd hx hb dX4_denAt_18 ?_
    refine zr_lald hx hb hK hP 1 1 rfl rfl (7 * i + j) (by omega) (by omega) (by omega) dX4_denAt_19 ?_
    refine lv_goto (tgt := 24) hx hb dX4_denAt_20 (by decide) ?_
    exact zr_lret hQ hx hb hr hlk dX4_denAt_24 hK hP hD hS (by omega) (by omega) hin (⟨rfl, rfl⟩)

set_option maxHeartbeats 4000000 in
set_option maxRecDepth 100000 in
/-- Equations.limbCount -/
theorem c_eqLimbCount (l : Launch) (D : va_G) (cI cJ cE cF cR : ClassId) (eq nu de n : Nat) (a b : Nat → Int) (hn : n ≤ 6) (hok : eq_ok a b) : Ci l D (zty cI cJ cE cF cR) yX4_limbCount wsX4_limbCount (zRm 3 65) 0 0 [.ref (eq)] [(eq, .inr (4, [.ref (nu), .ref (de), .int (iZ (((n : Nat) : Int)))])), (nu, aJ cJ (42) (a)), (de, aJ cJ (42) (b))] (fun r w1 => w1 = [(eq, .inr (4, [.ref (nu), .ref (de), .int (iZ (((n : Nat) : Int)))])), (nu, aJ cJ (42) (a)), (de, aJ cJ (42) (b))] ∧ ∃ x : Nat, r = x ∧ eq_all a b n n x) := by
  unfold Ci
  refine zs (Qc := zQi D _ _) (cc := cX4_limbCount) (maxL := 4) (ret := (some .int)) (by decide) rfl (Nat.le_of_ble_eq_true rfl) ?_
  intro zp ze s zm below meth zc ls A args Q hQ hx hb hr hts hown hlk hml hnm hN hA hK hP hD hS hl
  have q_f_RX4_22_Equations_n_I := hts (.fieldLink RX4 22 "LimbSolver$Equations" "n" "I") (by decide +kernel)
  have hin4 : ∀ w ∈ wsX40, w ∈ wsX4_limbCount := by decide +kernel
  have q_methodLink_RX4_34_Lib_MathLoose_abs_long_x := hts (.methodLink RX4 34 Lib.MathLoose.abs_long.x) (by decide +kernel)
  have q_static_Lib_MathLoose_abs_long_x := hts (.static Lib.MathLoose.abs_long.x) (by decide +kernel)
  have q_initialized_java_lang_Math := hts (.initialized "java/lang/Math") (by decide +kernel)
  have q_code_Lib_MathLoose_abs_long_x_Lib_MathLoose_abs_lo := hts (.code Lib.MathLoose.abs_long.x Lib.MathLoose.abs_long.code 2 (some .long)) (by decide +kernel)
  have hl : lv_has ls 4 [(0, .ref (eq))] := hl
  have lp : ∀ (t : Nat) (i : Nat) (sm : Nat) (H : Heap) (locs : List Loc) (ls : Array Slot), (i + t = n) → (eq_all a b n i sm) → (sm ≤ 28 * i) →  va_P D vwCl [(eq, .inr (4, [.ref (nu), .ref (de), .int (iZ (((n : Nat) : Int)))])), (nu, aJ cJ (42) (a)), (de, aJ cJ (42) (b))] H → va_D A [(eq, .inr (4, [.ref (nu), .ref (de), .int (iZ (((n : Nat) : Int)))])), (nu, aJ cJ (42) (a)), (de, aJ cJ (42) (b))] → va_S A s.heap H locs → lv_has ls 4 [(1, .int (iZ (((sm : Nat) : Int)))), (2, .int (iZ (((i : Nat) : Int)))), (0, .ref (eq))] → W zp l ze (zRm 3 65) s zm args below meth zc H locs 0 0 Q (F0 zm 4 ls []) := by
    intro t
    induction t with
    | zero =>
      intro i sm H locs ls hit hsa hsb hP hD hS hl
      refine lv_iload_n hx hb dX4_limbCount_4 rfl (lv_at hl 1 rfl) ?_
      refine lv_aload_n hx hb dX4_limbCount_5 rfl (lv_at hl 2 rfl) ?_
      refine va_get (D := D) (ci := 4) (v := .int (iZ (((n : Nat) : Int)))) (C := RX4) (T := TX4) (N := 3) hx hb hts hin4 hown hK hP 0 rfl rfl 2 (by decide) q_f_RX4_22_Equations_n_I (fun _ h9 => h9) rfl dX4_limbCount_6 ?_
      refine zr_icmp_ge hx hb 59 ⟨by omega, by omega⟩ ⟨by omega, by omega⟩ dX4_limbCount_9 (by decide) (fun h_9 => ?_) (fun h_9 => ?_)
      · refine lv_iload_n hx hb dX4_limbCount_59 rfl (lv_at hl 0 rfl) ?_
        exact zr_iret hQ hx hb hr hlk dX4_limbCount_60 hK hP hD hS (by omega) (by omega) ⟨by omega, by omega⟩ (⟨rfl, sm, rfl, (show i = n by omega) ▸ hsa⟩)
      · exfalso; omega
    | succ t ih =>
      intro i sm H locs ls hit hsa hsb hP hD hS hl
      have hi : i < n := by omega
      have ihO := ih
      have inner : ∀ (t : Nat) (j : Nat) (sm : Nat) (H : Heap) (locs : List Loc) (ls : Array Slot), (j + t = n + 1) → (∃ r1 r2 : Nat, eq_all a b n i r1 ∧ eq_row a b i j r2 ∧ sm = r1 + r2) → (sm ≤ 28 * i + 4 * j) →  va_P D vwCl [(eq, .inr (4, [.ref (nu), .ref (de), .int (iZ (((n : Nat) : Int)))])), (nu, aJ cJ (42) (a)), (de, aJ cJ (42) (b))] H → va_D A [(eq, .inr (4, [.ref (nu), .ref (de), .int (iZ (((n : Nat) : Int)))])), (nu, aJ cJ (42) (a)), (de, aJ cJ (42) (b))] → va_S A s.heap H locs → lv_has ls 4 [(3, .int (iZ (((j : Nat) : Int)))), (1, .int (iZ (((sm : Nat) : Int)))), (2, .int (iZ (((i : Nat) : Int)))), (0, .ref (eq))] → W zp l ze (zRm 3 65) s zm args below meth zc H locs 0 0 Q (F0 zm 14 ls []) := by
        intro t
        induction t with
        | zero =>
          intro j sm H locs ls hjt hsr hsb hP hD hS hl
          refine lv_iload_n hx hb dX4_limbCount_14 rfl (lv_at hl 0 rfl) ?_
          refine lv_aload_n hx hb dX4_limbCount_15 rfl (lv_at hl 3 rfl) ?_
          refine va_get (D := D) (ci := 4) (v := .int (iZ (((n : Nat) : Int)))) (C := RX4) (T := TX4) (N := 3) hx hb hts hin4 hown hK hP 0 rfl rfl 2 (by decide) q_f_RX4_22_Equations_n_I (fun _ h9 => h9) rfl dX4_limbCount_16 ?_
          refine zr_icmp_gt hx hb 53 ⟨by omega, by omega⟩ ⟨by omega, by omega⟩ dX4_limbCount_19 (by decide) (fun h_19 => ?_) (fun h_19 => ?_)
          · refine lv_iinc (v := iZ (((i + 1 : Nat) : Int))) (lv' := [(2, .int (iZ (((i + 1 : Nat) : Int)))), (3, .int (iZ (((j : Nat) : Int)))), (1, .int (iZ (((sm : Nat) : Int)))), (0, .ref (eq))]) hx hb dX4_limbCount_53 hl (k := 2) rfl (by rw [show ((i + 1 : Nat) : Int) = ((i : Nat) : Int) + 1 by omega]; exact iZ_add _ _) (by decide) rfl (fun ls hl => ?_)
            refine lv_goto (tgt := 4) hx hb dX4_limbCount_56 (by decide) ?_
            obtain ⟨r1, r2, q1, q2, q3⟩ := hsr
            exact ihO (i + 1) sm H locs ls (by omega) ⟨r1, r2, q1, (show j = n + 1 by omega) ▸ q2, q3⟩ (by omega) hP hD hS (lv_sub hl [2, 0, 3] rfl)
          · exfalso; omega
        | succ t ih =>
          intro j sm H locs ls hjt hsr hsb hP hD hS hl
          refine lv_iload_n hx hb dX4_limbCount_14 rfl (lv_at hl 0 rfl) ?_
          refine lv_aload_n hx hb dX4_limbCount_15 rfl (lv_at hl 3 rfl) ?_
          refine va_get (D := D) (ci := 4) (v := .int (iZ (((n : Nat) : Int)))) (C := RX4) (T := TX4) (N := 3) hx hb hts hin4 hown hK hP 0 rfl rfl 2 (by decide) q_f_RX4_22_Equations_n_I (fun _ h9 => h9) rfl dX4_limbCount_16 ?_
          refine zr_icmp_gt hx hb 53 ⟨by omega, by omega⟩ ⟨by omega, by omega⟩ dX4_limbCount_19 (by decide) (fun h_19 => ?_) (fun h_19 => ?_)
          · exfalso; omega
          · have hj : j ≤ n := by omega
            have hk9 := hok (7 * i + j) (by omega)
            refine lv_iload_n hx hb dX4_limbCount_22 rfl (lv_at hl 1 rfl) ?_
            refine lv_aload_n hx hb dX4_limbCount_23 rfl (lv_at hl 3 rfl) ?_
            refine lv_iload_n hx hb dX4_limbCount_24 rfl (lv_at hl 2 rfl) ?_
            refine lv_iload_n hx hb dX4_limbCount_25 rfl (lv_at hl 0 rfl) ?_
            refine zc_Vl (As := [.int (iZ (((i : Nat) : Int))), .int (iZ (((j : Nat) : Int)))]) (rest := [.int (iZ (((sm : Nat) : Int)))]) (wr := [(de, aJ cJ (42) (b))]) ⟨hx, hb, hml, hown, hts⟩ (c_numAt l D cI cJ cE cF cR eq nu de n i j a hi hj hn ⟨by omega, by omega⟩) (cwV 2 hts gX4_limbCount_X4_numAt rfl rfl rfl (by decide +kernel) ⟨Nat.le_of_ble_eq_true rfl, Nat.le_of_ble_eq_true rfl⟩) hN hK hP hD hS hA [0, 1] [2] rfl rfl (by decide) (by decide) (by decide) (q0 := 0) (ci := 4) rfl rfl rfl rfl hl.1 (Nat.le_of_ble_eq_true rfl) dX4_limbCount_26 ⟨by decide, by decide⟩ (fun z26 w1 H locs hz26 hp hP hD hS => ?_)
            obtain ⟨hw9, hx0⟩ := hp
            subst hw9
            subst hx0
            have hP := hP.sub (ws' := [(eq, .inr (4, [.ref (nu), .ref (de), .int (iZ (((n : Nat) : Int)))])), (nu, aJ cJ (42) (a)), (de, aJ cJ (42) (b))]) [1, 2, 0] rfl
            have hD := hD.sub (ws' := [(eq, .inr (4, [.ref (nu), .ref (de), .int (iZ (((n : Nat) : Int)))])), (nu, aJ cJ (42) (a)), (de, aJ cJ (42) (b))]) [1, 2, 0] (by decide) rfl
            refine zr_labs hx hb (hml.trans hl.1.symm) hown q_methodLink_RX4_34_Lib_MathLoose_abs_long_x q_static_Lib_MathLoose_abs_long_x q_initialized_java_lang_Math q_code_Lib_MathLoose_abs_long_x_Lib_MathLoose_abs_lo (Nat.le_of_ble_eq_true rfl) (Nat.le_of_ble_eq_true rfl) (Nat.zero_le _) (Nat.zero_le _) ⟨by omega, by omega⟩ dX4_limbCount_29 ?_
            refine zc_Si (As := [.long (lZ (((a (7 * i + j)).natAbs : Int)))]) (rest := [.int (iZ (((sm : Nat) : Int)))]) (wr := [(eq, .inr (4, [.ref (nu), .ref (de), .int (iZ (((n : Nat) : Int)))])), (nu, aJ cJ (42) (a)), (de, aJ cJ (42) (b))]) ⟨hx, hb, hml, hown, hts⟩ (c_limbsOf l D cI cJ cE cF cR ((a (7 * i + j)).natAbs : Int) ⟨by omega, by omega⟩) (va_cwS 1 hts gX4_limbCount_X4_limbsOf rfl rfl rfl (by decide +kernel) ⟨Nat.le_of_ble_eq_true rfl, Nat.le_of_ble_eq_true rfl⟩) hN hK hP hD hS hA [] [0, 1, 2] rfl rfl (by decide) (by decide) (by decide) rfl hl.1 (Nat.le_of_ble_eq_true rfl) dX4_limbCount_32 ⟨by decide, by decide⟩ (fun z32 w1 H locs hz32 hp hP hD hS => ?_)
            obtain ⟨hw9, x1, hx0, hx1⟩ := hp
            subst hw9
            subst hx0
            have hP := hP.sub (ws' := [(eq, .inr (4, [.ref (nu), .ref (de), .int (iZ (((n : Nat) : Int)))])), (nu, aJ cJ (42) (a)), (de, aJ cJ (42) (b))]) [0, 1, 2] rfl
            have hD := hD.sub (ws' := [(eq, .inr (4, [.ref (nu), .ref (de), .int (iZ (((n : Nat) : Int)))])), (nu, aJ cJ (42) (a)), (de, aJ cJ (42) (b))]) [0, 1, 2] (by decide) rfl
            refine lv_aload_n hx hb dX4_limbCount_35 rfl (lv_at hl 3 rfl) ?_
            refine lv_iload_n hx hb dX4_limbCount_36 rfl (lv_at hl 2 rfl) ?_
            refine lv_iload_n hx hb dX4_limbCount_37 rfl (lv_at hl 0 rfl) ?_
            refine zc_Vl (As := [.int (iZ (((i : Nat) : Int))), .int (iZ (((j : Nat) : Int)))]) (rest := [.int (iZ (((x1 : Nat) : Int))), .int (iZ (((sm : Nat) : Int)))]) (wr := [(nu, aJ cJ (42) (a))]) ⟨hx, hb, hml, hown, hts⟩ (c_denAt l D cI cJ cE cF cR eq nu de n i j b hi hj hn ⟨by omega, by omega⟩) (cwV 2 hts gX4_limbCount_X4_denAt rfl rfl rfl (by decide +kernel) ⟨Nat.le_of_ble_eq_true rfl, Nat.le_of_ble_eq_true rfl⟩) hN hK hP hD hS hA [0, 2] [1] rfl rfl (by decide) (by decide) (by decide) (q0 := 0) (ci := 4) rfl rfl rfl rfl hl.1 (Nat.le_of_ble_eq_true rfl) dX4_limbCount_38 ⟨by decide, by decide⟩ (fun z38 w1 H locs hz38 hp hP hD hS => ?_)
            obtain ⟨hw9, hx0⟩ := hp
            subst hw9
            subst hx0
            have hP := hP.sub (ws' := [(eq, .inr (4, [.ref (nu), .ref (de), .int (iZ (((n : Nat) : Int)))])), (nu, aJ cJ (42) (a)), (de, aJ cJ (42) (b))]) [1, 0, 2] rfl
            have hD := hD.sub (ws' := [(eq, .inr (4, [.ref (nu), .ref (de), .int (iZ (((n : Nat) : Int)))])), (nu, aJ cJ (42) (a)), (de, aJ cJ (42) (b))]) [1, 0, 2] (by decide) rfl
            refine zc_Si (As := [.long (lZ (b (7 * i + j)))]) (rest := [.int (iZ (((x1 : Nat) : Int))), .int (iZ (((sm : Nat) : Int)))]) (wr := [(eq, .inr (4, [.ref (nu), .ref (de), .int (iZ (((n : Nat) : Int)))])), (nu, aJ cJ (42) (a)), (de, aJ cJ (42) (b))]) ⟨hx, hb, hml, hown, hts⟩ (c_limbsOf l D cI cJ cE cF cR (b (7 * i + j)) ⟨by omega, by omega⟩) (va_cwS 1 hts gX4_limbCount_X4_limbsOf rfl rfl rfl (by decide +kernel) ⟨Nat.le_of_ble_eq_true rfl, Nat.le_of_ble_eq_true rfl⟩) hN hK hP hD hS hA [] [0, 1, 2] rfl rfl (by decide) (by decide) (by decide) rfl hl.1 (Nat.le_of_ble_eq_true rfl) dX4_limbCount_41 ⟨by decide, by decide⟩ (fun z41 w1 H locs hz41 hp hP hD hS => ?_)
            obtain ⟨hw9, x2, hx0, hx2⟩ := hp
            subst hw9
            subst hx0
            have hP := hP.sub (ws' := [(eq, .inr (4, [.ref (nu), .ref (de), .int (iZ (((n : Nat) : Int)))])), (nu, aJ cJ (42) (a)), (de, aJ cJ (42) (b))]) [0, 1, 2] rfl
            have hD := hD.sub (ws' := [(eq, .inr (4, [.ref (nu), .ref (de), .int (iZ (((n : Nat) : Int)))])), (nu, aJ cJ (42) (a)), (de, aJ cJ (42) (b))]) [0, 1, 2] (by decide) rfl
            refine zr_iadd hx hb dX4_limbCount_44 ?_
            refine zr_iadd hx hb dX4_limbCount_45 ?_
            refine zr_eqi (((sm + (x1 + x2) : Nat) : Int)) (by omega) ?_
            refine lv_istore_n (lv' := [(1, .int (iZ (((sm + (x1 + x2) : Nat) : Int)))), (3, .int (iZ (((j : Nat) : Int)))), (2, .int (iZ (((i : Nat) : Int)))), (0, .ref (eq))]) hx hb dX4_limbCount_46 rfl hl (by decide) rfl (fun ls hl => ?_)
            refine lv_iinc (v := iZ (((j + 1 : Nat) : Int))) (lv' := [(3, .int (iZ (((j + 1 : Nat) : Int)))), (1, .int (iZ (((sm + (x1 + x2) : Nat) : Int)))), (2, .int (iZ (((i : Nat) : Int)))), (0, .ref (eq))]) hx hb dX4_limbCount_47 hl (k := 1) rfl (by rw [show ((j + 1 : Nat) : Int) = ((j : Nat) : Int) + 1 by omega]; exact iZ_add _ _) (by decide) rfl (fun ls hl => ?_)
            refine lv_goto (tgt := 14) hx hb dX4_limbCount_50 (by decide) ?_
            obtain ⟨r1, r2, q1, q2, q3⟩ := hsr
            have q4 : eq_lc a b (7 * i + j) (x1 + x2) := ⟨x1, x2, hx1, hx2, rfl⟩
            have q5 := eq_lc_le hok (by omega) q4
            exact ih (j + 1) (sm + (x1 + x2)) H locs ls (by omega) ⟨r1, r2 + (x1 + x2), q1, ⟨r2, x1 + x2, q2, q4, rfl⟩, by omega⟩ (by omega) hP hD hS (lv_sub hl [0, 1, 2, 3] rfl)
      refine lv_iload_n hx hb dX4_limbCount_4 rfl (lv_at hl 1 rfl) ?_
      refine lv_aload_n hx hb dX4_limbCount_5 rfl (lv_at hl 2 rfl) ?_
      refine va_get (D := D) (ci := 4) (v := .int (iZ (((n : Nat) : Int)))) (C := RX4) (T := TX4) (N := 3) hx hb hts hin4 hown hK hP 0 rfl rfl 2 (by decide) q_f_RX4_22_Equations_n_I (fun _ h9 => h9) rfl dX4_limbCount_6 ?_
      refine zr_icmp_ge hx hb 59 ⟨by omega, by omega⟩ ⟨by omega, by omega⟩ dX4_limbCount_9 (by decide) (fun h_9 => ?_) (fun h_9 => ?_)
      · exfalso; omega
      · refine lv_iconst (v := iZ 0) hx hb dX4_limbCount_12 rfl ?_
        refine lv_istore_n (lv' := [(3, .int (iZ (0))), (1, .int (iZ (((sm : Nat) : Int)))), (2, .int (iZ (((i : Nat) : Int)))), (0, .ref (eq))]) hx hb dX4_limbCount_13 rfl hl (by decide) rfl (fun ls hl => ?_)
        exact inner (n + 1) 0 sm H locs ls (by omega) ⟨sm, 0, hsa, rfl, rfl⟩ (by omega) hP hD hS (lv_sub hl [0, 1, 2, 3] rfl)
  refine lv_iconst (v := iZ 0) hx hb dX4_limbCount_0 rfl ?_
  refine lv_istore_n (lv' := [(1, .int (iZ (0))), (0, .ref (eq))]) hx hb dX4_limbCount_1 rfl hl (by decide) rfl (fun ls hl => ?_)
  refine lv_iconst (v := iZ 0) hx hb dX4_limbCount_2 rfl ?_
  refine lv_istore_n (lv' := [(2, .int (iZ (0))), (1, .int (iZ (0))), (0, .ref (eq))]) hx hb dX4_limbCount_3 rfl hl (by decide) rfl (fun ls hl => ?_)
  exact lp n 0 0 s.heap [] ls (by omega) rfl (by omega) hP hD hS (lv_sub hl [1, 0, 2] rfl)

set_option maxHeartbeats 4000000 in
set_option maxRecDepth 100000 in
/-- Equations.put -/
theorem c_put (l : Launch) (D : va_G) (cI cJ cE cF cR : ClassId) (eq nu de n i j : Nat) (nm dn : Int) (a b : Nat → Int) (hi : i < n) (hj : j ≤ n) (hn : n ≤ 6) (hnm9 : -2147483648 ≤ nm ∧ nm ≤ 2147483648) (hdn : -2147483648 ≤ dn ∧ dn ≤ 2147483648) (hd0 : dn ≠ 0) : Cv l D (zty cI cJ cE cF cR) yX4_put wsX4_put (zRm 2 43) 0 0 [.ref (eq), .int (iZ (((i : Nat) : Int))), .int (iZ (((j : Nat) : Int))), .long (lZ (nm)), .long (lZ (dn))] [(eq, .inr (4, [.ref (nu), .ref (de), .int (iZ (((n : Nat) : Int)))])), (nu, aJ cJ (42) (a)), (de, aJ cJ (42) (b))] (fun w1 => w1 = [(eq, .inr (4, [.ref (nu), .ref (de), .int (iZ (((n : Nat) : Int)))])), (nu, aJ cJ (42) (zu a (7 * i + j) ((if dn < 0 then -nm else nm) / ((Nat.gcd nm.natAbs dn.natAbs : Nat) : Int)))), (de, aJ cJ (42) (zu b (7 * i + j) (((dn).natAbs : Int) / ((Nat.gcd nm.natAbs dn.natAbs : Nat) : Int))))]) := by
  unfold Cv
  refine zs (Qc := zQv D _ _) (cc := cX4_put) (maxL := 10) (ret := none) (by decide) rfl (Nat.le_of_ble_eq_true rfl) ?_
  intro zp ze s zm below meth zc ls A args Q hQ hx hb hr hts hown hlk hml hnm hN hA hK hP hD hS hl
  have q_methodLink_RX4_34_Lib_MathLoose_abs_long_x := hts (.methodLink RX4 34 Lib.MathLoose.abs_long.x) (by decide +kernel)
  have q_static_Lib_MathLoose_abs_long_x := hts (.static Lib.MathLoose.abs_long.x) (by decide +kernel)
  have q_initialized_java_lang_Math := hts (.initialized "java/lang/Math") (by decide +kernel)
  have q_code_Lib_MathLoose_abs_long_x_Lib_MathLoose_abs_lo := hts (.code Lib.MathLoose.abs_long.x Lib.MathLoose.abs_long.code 2 (some .long)) (by decide +kernel)
  have q_initialized_RX10 := hts (.initialized RX10) (by decide +kernel)
  have q_static_yX10_commonDivisor := hts (.static yX10_commonDivisor) (by decide +kernel)
  have q_f_RX4_9_Equations_nums_J := hts (.fieldLink RX4 9 "LimbSolver$Equations" "nums" "[J") (by decide +kernel)
  have hin4 : ∀ w ∈ wsX40, w ∈ wsX4_put := by decide +kernel
  have q_f_RX4_15_Equations_dens_J := hts (.fieldLink RX4 15 "LimbSolver$Equations" "dens" "[J") (by decide +kernel)
  have hl : lv_has ls 10 [(0, .ref (eq)), (1, .int (iZ (((i : Nat) : Int)))), (2, .int (iZ (((j : Nat) : Int)))), (3, .long (lZ (nm))), (5, .long (lZ (dn)))] := hl
  have hG0 : 0 < ((Nat.gcd nm.natAbs dn.natAbs : Nat) : Int) := by
    have := Nat.gcd_pos_of_pos_right nm.natAbs (show 0 < dn.natAbs by omega)
    omega
  have hGl : ((Nat.gcd nm.natAbs dn.natAbs : Nat) : Int) ≤ dn.natAbs := by
    have := Nat.gcd_le_right nm.natAbs (show 0 < dn.natAbs by omega)
    omega
  have hg1 : ((Nat.gcd nm.natAbs dn.natAbs : Nat) : Int) ∣ nm := Int.ofNat_dvd_left.mpr (Nat.gcd_dvd_left nm.natAbs dn.natAbs)
  have hg2 : ((Nat.gcd nm.natAbs dn.natAbs : Nat) : Int) ∣ ((dn).natAbs : Int) := Int.natCast_dvd_natCast.mpr (Nat.gcd_dvd_right nm.natAbs dn.natAbs)
  refine lv_lload_n hx hb dX4_put_0 rfl (lv_at hl 3 rfl) ?_
  refine zr_labs hx hb (hml.trans hl.1.symm) hown q_methodLink_RX4_34_Lib_MathLoose_abs_long_x q_static_Lib_MathLoose_abs_long_x q_initialized_java_lang_Math q_code_Lib_MathLoose_abs_long_x_Lib_MathLoose_abs_lo (Nat.le_of_ble_eq_true rfl) (Nat.le_of_ble_eq_true rfl) (Nat.zero_le _) (Nat.zero_le _) ⟨by omega, by omega⟩ dX4_put_1 ?_
  refine lv_lload hx hb dX4_put_4 (lv_at hl 4 rfl) ?_
  refine zr_labs hx hb (hml.trans hl.1.symm) hown q_methodLink_RX4_34_Lib_MathLoose_abs_long_x q_static_Lib_MathLoose_abs_long_x q_initialized_java_lang_Math q_code_Lib_MathLoose_abs_long_x_Lib_MathLoose_abs_lo (Nat.le_of_ble_eq_true rfl) (Nat.le_of_ble_eq_true rfl) (Nat.zero_le _) (Nat.zero_le _) ⟨by omega, by omega⟩ dX4_put_6 ?_
  refine zc_SNl (As := [.long (lZ (((nm).natAbs : Int))), .long (lZ (((dn).natAbs : Int)))]) (rest := []) (wr := [(eq, .inr (4, [.ref (nu), .ref (de), .int (iZ (((n : Nat) : Int)))])), (nu, aJ cJ (42) (a)), (de, aJ cJ (42) (b))]) ⟨hx, hb, hml, hown, hts⟩ (c_commonDivisor l D cI cJ cE cF cR nm.natAbs dn.natAbs (by omega) (by omega)) ⟨va_cnB 2 hts gX4_put_X10_commonDivisor_n40 rfl rfl rfl (hN.M 0 rfl) q_initialized_RX10 (by decide +kernel) ⟨Nat.le_of_ble_eq_true rfl, Nat.le_of_ble_eq_true rfl⟩, q_static_yX10_commonDivisor, trivial⟩ hN hK hP hD hS hA [] [0, 1, 2] rfl rfl (by decide) (by decide) (by decide) rfl hl.1 (Nat.le_of_ble_eq_true rfl) dX4_put_9 ⟨by decide, by decide⟩ (fun z9 w1 H locs hz9 hp hP hD hS => ?_)
  obtain ⟨hw9, hx0⟩ := hp
  subst hw9
  subst hx0
  have hP := hP.sub (ws' := [(eq, .inr (4, [.ref (nu), .ref (de), .int (iZ (((n : Nat) : Int)))])), (nu, aJ cJ (42) (a)), (de, aJ cJ (42) (b))]) [0, 1, 2] rfl
  have hD := hD.sub (ws' := [(eq, .inr (4, [.ref (nu), .ref (de), .int (iZ (((n : Nat) : Int)))])), (nu, aJ cJ (42) (a)), (de, aJ cJ (42) (b))]) [0, 1, 2] (by decide) rfl
  refine lv_lstore (lv' := [(7, .long (lZ (((Nat.gcd nm.natAbs dn.natAbs : Nat) : Int)))), (0, .ref (eq)), (1, .int (iZ (((i : Nat) : Int)))), (2, .int (iZ (((j : Nat) : Int)))), (3, .long (lZ (nm))), (5, .long (lZ (dn)))]) hx hb dX4_put_12 hl (by decide) rfl (fun ls hl => ?_)
  refine lv_aload_n hx hb dX4_put_14 rfl (lv_at hl 1 rfl) ?_
  refine lv_iload_n hx hb dX4_put_15 rfl (lv_at hl 2 rfl) ?_
  refine lv_iload_n hx hb dX4_put_16 rfl (lv_at hl 3 rfl) ?_
  refine zc_Vi (As := [.int (iZ (((i : Nat) : Int))), .int (iZ (((j : Nat) : Int)))]) (rest := []) (wr := [(nu, aJ cJ (42) (a)), (de, aJ cJ (42) (b))]) ⟨hx, hb, hml, hown, hts⟩ (c_hasPlace l D cI cJ cE cF cR eq nu de n ((i : Nat) : Int) ((j : Nat) : Int) ⟨by omega, by omega⟩ ⟨by omega, by omega⟩ hn) (cwV 2 hts gX4_put_X4_hasPlace rfl rfl rfl (by decide +kernel) ⟨Nat.le_of_ble_eq_true rfl, Nat.le_of_ble_eq_true rfl⟩) hN hK hP hD hS hA [0] [1, 2] rfl rfl (by decide) (by decide) (by decide) (q0 := 0) (ci := 4) rfl rfl rfl rfl hl.1 (Nat.le_of_ble_eq_true rfl) dX4_put_17 ⟨by decide, by decide⟩ (fun z17 w1 H locs hz17 hp hP hD hS => ?_)
  obtain ⟨hw9, hr9⟩ := hp
  subst hw9
  rw [if_pos ⟨by omega, by omega, by omega, by omega⟩] at hr9
  subst hr9
  have hP := hP.sub (ws' := [(eq, .inr (4, [.ref (nu), .ref (de), .int (iZ (((n : Nat) : Int)))])), (nu, aJ cJ (42) (a)), (de, aJ cJ (42) (b))]) [2, 0, 1] rfl
  have hD := hD.sub (ws' := [(eq, .inr (4, [.ref (nu), .ref (de), .int (iZ (((n : Nat) : Int)))])), (nu, aJ cJ (42) (a)), (de, aJ cJ (42) (b))]) [2, 0, 1] (by decide) rfl
  refine zr_if_eq hx hb 30 ⟨by omega, by omega⟩ dX4_put_20 (by decide) (fun h_20 => ?_) (fun h_20 => ?_)
  · exfalso; omega
  · refine lv_lload hx hb dX4_put_23 (lv_at hl 0 rfl) ?_
    refine lv_lconst (v := lZ 0) hx hb dX4_put_25 rfl ?_
    refine zr_lcmp_ne hx hb 31 ⟨by omega, by omega⟩ ⟨by omega, by omega⟩ dX4_put_26 dX4_put_27 (by decide) (fun h_26 => ?_) (fun h_26 => ?_)
    · refine lv_iload_n hx hb dX4_put_31 rfl (lv_at hl 2 rfl) ?_
      refine lv_bipush (v := iZ 7) hx hb dX4_put_32 (by decide) ?_
      refine zr_imul hx hb dX4_put_34 ?_
      refine lv_iload_n hx hb dX4_put_35 rfl (lv_at hl 3 rfl) ?_
      refine zr_iadd hx hb dX4_put_36 ?_
      refine zr_eqi (((7 * i + j : Nat) : Int)) (by omega) ?_
      refine lv_istore (lv' := [(9, .int (iZ (((7 * i + j : Nat) : Int)))), (7, .long (lZ (((Nat.gcd nm.natAbs dn.natAbs : Nat) : Int)))), (0, .ref (eq)), (1, .int (iZ (((i : Nat) : Int)))), (2, .int (iZ (((j : Nat) : Int)))), (3, .long (lZ (nm))), (5, .long (lZ (dn)))]) hx hb dX4_put_37 hl (by decide) rfl (fun ls hl => ?_)
      refine lv_aload_n hx hb dX4_put_39 rfl (lv_at hl 2 rfl) ?_
      refine va_get (D := D) (ci := 4) (v := .ref (nu)) (C := RX4) (T := TX4) (N := 3) hx hb hts hin4 hown hK hP 0 rfl rfl 0 (by decide) q_f_RX4_9_Equations_nums_J (fun _ h9 => h9) rfl dX4_put_40 ?_
      refine lv_iload hx hb dX4_put_43 (lv_at hl 0 rfl) ?_
      refine lv_lload hx hb dX4_put_45 (lv_at hl 6 rfl) ?_
      refine lv_lconst (v := lZ 0) hx hb dX4_put_47 rfl ?_
      refine zr_lcmp_ge hx hb 57 ⟨by omega, by omega⟩ ⟨by omega, by omega⟩ dX4_put_48 dX4_put_49 (by decide) (fun h_48 => ?_) (fun h_48 => ?_)
      · refine lv_lload_n hx hb dX4_put_57 rfl (lv_at hl 5 rfl) ?_
        refine lv_lload hx hb dX4_put_58 (lv_at hl 1 rfl) ?_
        refine zr_ldivE hx hb ⟨by omega, by omega⟩ ⟨by omega, by omega⟩ (hG0) (by first | exact hg1 | exact (Int.dvd_neg).mpr hg1) dX4_put_60 ?_
        refine zr_last hx hb hK hP hD hS 1 1 rfl rfl (7 * i + j) (by omega) (by omega) (by omega) dX4_put_61 (fun H locs hP hD hS => ?_)
        have hP : va_P D vwCl [(eq, .inr (4, [.ref (nu), .ref (de), .int (iZ (((n : Nat) : Int)))])), (nu, aJ cJ (42) (zu (a) (7 * i + j) ((nm) / (((Nat.gcd nm.natAbs dn.natAbs : Nat) : Int))))), (de, aJ cJ (42) (b))] H := hP
        have hD : va_D A [(eq, .inr (4, [.ref (nu), .ref (de), .int (iZ (((n : Nat) : Int)))])), (nu, aJ cJ (42) (zu (a) (7 * i + j) ((nm) / (((Nat.gcd nm.natAbs dn.natAbs : Nat) : Int))))), (de, aJ cJ (42) (b))] := hD
        refine lv_aload_n hx hb dX4_put_62 rfl (lv_at hl 2 rfl) ?_
        refine va_get (D := D) (ci := 4) (v := .ref (de)) (C := RX4) (T := TX4) (N := 3) hx hb hts hin4 hown hK hP 0 rfl rfl 1 (by decide) q_f_RX4_15_Equations_dens_J (fun _ h9 => h9) rfl dX4_put_63 ?_
        refine lv_iload hx hb dX4_put_66 (lv_at hl 0 rfl) ?_
        refine lv_lload hx hb dX4_put_68 (lv_at hl 6 rfl) ?_
        refine zr_labs hx hb (hml.trans hl.1.symm) hown q_methodLink_RX4_34_Lib_MathLoose_abs_long_x q_static_Lib_MathLoose_abs_long_x q_initialized_java_lang_Math q_code_Lib_MathLoose_abs_long_x_Lib_MathLoose_abs_lo (Nat.le_of_ble_eq_true rfl) (Nat.le_of_ble_eq_true rfl) (Nat.zero_le _) (Nat.zero_le _) ⟨by omega, by omega⟩ dX4_put_70 ?_
        refine lv_lload hx hb dX4_put_73 (lv_at hl 1 rfl) ?_
        refine zr_ldivE hx hb ⟨by omega, by omega⟩ ⟨by omega, by omega⟩ (hG0) (hg2) dX4_put_75 ?_
        refine zr_last hx hb hK hP hD hS 2 1 rfl rfl (7 * i + j) (by omega) (by omega) (by omega) dX4_put_76 (fun H locs hP hD hS => ?_)
        have hP : va_P D vwCl [(eq, .inr (4, [.ref (nu), .ref (de), .int (iZ (((n : Nat) : Int)))])), (nu, aJ cJ (42) (zu (a) (7 * i + j) ((nm) / (((Nat.gcd nm.natAbs dn.natAbs : Nat) : Int))))), (de, aJ cJ (42) (zu (b) (7 * i + j) ((((dn).natAbs : Int)) / (((Nat.gcd nm.natAbs dn.natAbs : Nat) : Int)))))] H := hP
        have hD : va_D A [(eq, .inr (4, [.ref (nu), .ref (de), .int (iZ (((n : Nat) : Int)))])), (nu, aJ cJ (42) (zu (a) (7 * i + j) ((nm) / (((Nat.gcd nm.natAbs dn.natAbs : Nat) : Int))))), (de, aJ cJ (42) (zu (b) (7 * i + j) ((((dn).natAbs : Int)) / (((Nat.gcd nm.natAbs dn.natAbs : Nat) : Int)))))] := hD
        exact zr_vret hQ hx hb hr hlk dX4_put_77 hK hP hD hS (by omega) (by omega) (by
  rw [if_neg (show ¬ dn < 0 by omega)])
      · refine lv_lload_n hx hb dX4_put_52 rfl (lv_at hl 5 rfl) ?_
        refine zr_lneg hx hb dX4_put_53 ?_
        refine lv_goto (tgt := 58) hx hb dX4_put_54 (by decide) ?_
        refine lv_lload hx hb dX4_put_58 (lv_at hl 1 rfl) ?_
        refine zr_ldivE hx hb ⟨by omega, by omega⟩ ⟨by omega, by omega⟩ (hG0) (by first | exact hg1 | exact (Int.dvd_neg).mpr hg1) dX4_put_60 ?_
        refine zr_last hx hb hK hP hD hS 1 1 rfl rfl (7 * i + j) (by omega) (by omega) (by omega) dX4_put_61 (fun H locs hP hD hS => ?_)
        have hP : va_P D vwCl [(eq, .inr (4, [.ref (nu), .ref (de), .int (iZ (((n : Nat) : Int)))])), (nu, aJ cJ (42) (zu (a) (7 * i + j) ((-(nm)) / (((Nat.gcd nm.natAbs dn.natAbs : Nat) : Int))))), (de, aJ cJ (42) (b))] H := hP
        have hD : va_D A [(eq, .inr (4, [.ref (nu), .ref (de), .int (iZ (((n : Nat) : Int)))])), (nu, aJ cJ (42) (zu (a) (7 * i + j) ((-(nm)) / (((Nat.gcd nm.natAbs dn.natAbs : Nat) : Int))))), (de, aJ cJ (42) (b))] := hD
        refine lv_aload_n hx hb dX4_put_62 rfl (lv_at hl 2 rfl) ?_
        refine va_get (D := D) (ci := 4) (v := .ref (de)) (C := RX4) (T := TX4) (N := 3) hx hb hts hin4 hown hK hP 0 rfl rfl 1 (by decide) q_f_RX4_15_Equations_dens_J (fun _ h9 => h9) rfl dX4_put_63 ?_
        refine lv_iload hx hb dX4_put_66 (lv_at hl 0 rfl) ?_
        refine lv_lload hx hb dX4_put_68 (lv_at hl 6 rfl) ?_
        refine zr_labs hx hb (hml.trans hl.1.symm) hown q_methodLink_RX4_34_Lib_MathLoose_abs_long_x q_static_Lib_MathLoose_abs_long_x q_initialized_java_lang_Math q_code_Lib_MathLoose_abs_long_x_Lib_MathLoose_abs_lo (Nat.le_of_ble_eq_true rfl) (Nat.le_of_ble_eq_true rfl) (Nat.zero_le _) (Nat.zero_le _) ⟨by omega, by omega⟩ dX4_put_70 ?_
        refine lv_lload hx hb dX4_put_73 (lv_at hl 1 rfl) ?_
        refine zr_ldivE hx hb ⟨by omega, by omega⟩ ⟨by omega, by omega⟩ (hG0) (hg2) dX4_put_75 ?_
        refine zr_last hx hb hK hP hD hS 2 1 rfl rfl (7 * i + j) (by omega) (by omega) (by omega) dX4_put_76 (fun H locs hP hD hS => ?_)
        have hP : va_P D vwCl [(eq, .inr (4, [.ref (nu), .ref (de), .int (iZ (((n : Nat) : Int)))])), (nu, aJ cJ (42) (zu (a) (7 * i + j) ((-(nm)) / (((Nat.gcd nm.natAbs dn.natAbs : Nat) : Int))))), (de, aJ cJ (42) (zu (b) (7 * i + j) ((((dn).natAbs : Int)) / (((Nat.gcd nm.natAbs dn.natAbs : Nat) : Int)))))] H := hP
        have hD : va_D A [(eq, .inr (4, [.ref (nu), .ref (de), .int (iZ (((n : Nat) : Int)))])), (nu, aJ cJ (42) (zu (a) (7 * i + j) ((-(nm)) / (((Nat.gcd nm.natAbs dn.natAbs : Nat) : Int))))), (de, aJ cJ (42) (zu (b) (7 * i + j) ((((dn).natAbs : Int)) / (((Nat.gcd nm.natAbs dn.natAbs : Nat) : Int)))))] := hD
        exact zr_vret hQ hx hb hr hlk dX4_put_77 hK hP hD hS (by omega) (by omega) (by
  rw [if_pos (show dn < 0 by omega)])
    · exfalso; omega

set_option maxHeartbeats 4000000 in
set_option maxRecDepth 100000 in
/-- Equations.show -/
theorem c_show (l : Launch) (D : va_G) (cI cJ cE cF cR : ClassId) (eq nu de n i j f fn nw fd dw rn rd : Nat) (sg cn cd : Int) (a b gn gd : Nat → Int) (hi : i < n) (hj : j ≤ n) (hn : n ≤ 6) (hok : eq_ok a b) (hrn2 : 2 ≤ rn) (hrd2 : 2 ≤ rd) (hrn9 : rn ≤ 1000) (hrd9 : rd ≤ 1000) : Cv l D (zty cI cJ cE cF cR) yX4_show wsX4_show (zRm 3 65) 0 0 [.ref (eq), .int (iZ (((i : Nat) : Int))), .int (iZ (((j : Nat) : Int))), .ref (f)] [(eq, .inr (4, [.ref (nu), .ref (de), .int (iZ (((n : Nat) : Int)))])), (nu, aJ cJ (42) (a)), (de, aJ cJ (42) (b)), (f, .inr (6, [.ref (fn), .ref (fd), .int (iZ (sg))])), (fn, .inr (9, [.ref (nw), .int (iZ (cn))])), (nw, aI cI (rn) (gn)), (fd, .inr (9, [.ref (dw), .int (iZ (cd))])), (dw, aI cI (rd) (gd))] (fun w1 => ∃ (sz : Int) (g1 : Nat → Int) (n1 : Nat) (g2 : Nat → Int) (n2 : Nat), w1 = [(eq, .inr (4, [.ref (nu), .ref (de), .int (iZ (((n : Nat) : Int)))])), (nu, aJ cJ (42) (a)), (de, aJ cJ (42) (b)), (f, .inr (6, [.ref (fn), .ref (fd), .int (iZ (sz))])), (fn, .inr (9, [.ref (nw), .int (iZ (((n1 : Nat) : Int)))])), (nw, aI cI (rn) (g1)), (fd, .inr (9, [.ref (dw), .int (iZ (((n2 : Nat) : Int)))])), (dw, aI cI (rd) (g2))] ∧ bg_cmp (a (7 * i + j)) 0 sz ∧ bg_ok g1 n1 rn ((a (7 * i + j)).natAbs : Int) ∧ bg_ok g2 n2 rd (b (7 * i + j))) := by
  unfold Cv
  refine zs (Qc := zQv D _ _) (cc := cX4_show) (maxL := 4) (ret := none) (by decide) rfl (Nat.le_of_ble_eq_true rfl) ?_
  intro zp ze s zm below meth zc ls A args Q hQ hx hb hr hts hown hlk hml hnm hN hA hK hP hD hS hl
  have hl : lv_has ls 4 [(0, .ref (eq)), (1, .int (iZ (((i : Nat) : Int)))), (2, .int (iZ (((j : Nat) : Int)))), (3, .ref (f))] := hl
  have hk9 := hok (7 * i + j) (by omega)
  have hp1 := bg_p_le hrn2
  have hp2 := bg_p_le hrd2
  have hp3 := bg_p_small.2.1
  refine lv_aload_n hx hb dX4_show_0 rfl (lv_at hl 3 rfl) ?_
  refine lv_aload_n hx hb dX4_show_1 rfl (lv_at hl 0 rfl) ?_
  refine lv_iload_n hx hb dX4_show_2 rfl (lv_at hl 1 rfl) ?_
  refine lv_iload_n hx hb dX4_show_3 rfl (lv_at hl 2 rfl) ?_
  refine zc_Vl (As := [.int (iZ (((i : Nat) : Int))), .int (iZ (((j : Nat) : Int)))]) (rest := [.ref (f)]) (wr := [(de, aJ cJ (42) (b)), (f, .inr (6, [.ref (fn), .ref (fd), .int (iZ (sg))])), (fn, .inr (9, [.ref (nw), .int (iZ (cn))])), (nw, aI cI (rn) (gn)), (fd, .inr (9, [.ref (dw), .int (iZ (cd))])), (dw, aI cI (rd) (gd))]) ⟨hx, hb, hml, hown, hts⟩ (c_numAt l D cI cJ cE cF cR eq nu de n i j a hi hj hn ⟨by omega, by omega⟩) (cwV 2 hts gX4_show_X4_numAt rfl rfl rfl (by decide +kernel) ⟨Nat.le_of_ble_eq_true rfl, Nat.le_of_ble_eq_true rfl⟩) hN hK hP hD hS hA [0, 1] [2, 3, 4, 5, 6, 7] rfl rfl (by decide) (by decide) (by decide) (q0 := 0) (ci := 4) rfl rfl rfl rfl hl.1 (Nat.le_of_ble_eq_true rfl) dX4_show_4 ⟨by decide, by decide⟩ (fun z4 w1 H locs hz4 hp hP hD hS => ?_)
  obtain ⟨hw9, hx0⟩ := hp
  subst hw9
  subst hx0
  have hP := hP.sub (ws' := [(eq, .inr (4, [.ref (nu), .ref (de), .int (iZ (((n : Nat) : Int)))])), (nu, aJ cJ (42) (a)), (de, aJ cJ (42) (b)), (f, .inr (6, [.ref (fn), .ref (fd), .int (iZ (sg))])), (fn, .inr (9, [.ref (nw), .int (iZ (cn))])), (nw, aI cI (rn) (gn)), (fd, .inr (9, [.ref (dw), .int (iZ (cd))])), (dw, aI cI (rd) (gd))]) [6, 7, 0, 1, 2, 3, 4, 5] rfl
  have hD := hD.sub (ws' := [(eq, .inr (4, [.ref (nu), .ref (de), .int (iZ (((n : Nat) : Int)))])), (nu, aJ cJ (42) (a)), (de, aJ cJ (42) (b)), (f, .inr (6, [.ref (fn), .ref (fd), .int (iZ (sg))])), (fn, .inr (9, [.ref (nw), .int (iZ (cn))])), (nw, aI cI (rn) (gn)), (fd, .inr (9, [.ref (dw), .int (iZ (cd))])), (dw, aI cI (rd) (gd))]) [6, 7, 0, 1, 2, 3, 4, 5] (by decide) rfl
  refine lv_aload_n hx hb dX4_show_7 rfl (lv_at hl 0 rfl) ?_
  refine lv_iload_n hx hb dX4_show_8 rfl (lv_at hl 1 rfl) ?_
  refine lv_iload_n hx hb dX4_show_9 rfl (lv_at hl 2 rfl) ?_
  refine zc_Vl (As := [.int (iZ (((i : Nat) : Int))), .int (iZ (((j : Nat) : Int)))]) (rest := [.long (lZ (a (7 * i + j))), .ref (f)]) (wr := [(nu, aJ cJ (42) (a)), (f, .inr (6, [.ref (fn), .ref (fd), .int (iZ (sg))])), (fn, .inr (9, [.ref (nw), .int (iZ (cn))])), (nw, aI cI (rn) (gn)), (fd, .inr (9, [.ref (dw), .int (iZ (cd))])), (dw, aI cI (rd) (gd))]) ⟨hx, hb, hml, hown, hts⟩ (c_denAt l D cI cJ cE cF cR eq nu de n i j b hi hj hn ⟨by omega, by omega⟩) (cwV 2 hts gX4_show_X4_denAt rfl rfl rfl (by decide +kernel) ⟨Nat.le_of_ble_eq_true rfl, Nat.le_of_ble_eq_true rfl⟩) hN hK hP hD hS hA [0, 2] [1, 3, 4, 5, 6, 7] rfl rfl (by decide) (by decide) (by decide) (q0 := 0) (ci := 4) rfl rfl rfl rfl hl.1 (Nat.le_of_ble_eq_true rfl) dX4_show_10 ⟨by decide, by decide⟩ (fun z10 w1 H locs hz10 hp hP hD hS => ?_)
  obtain ⟨hw9, hx0⟩ := hp
  subst hw9
  subst hx0
  have hP := hP.sub (ws' := [(eq, .inr (4, [.ref (nu), .ref (de), .int (iZ (((n : Nat) : Int)))])), (nu, aJ cJ (42) (a)), (de, aJ cJ (42) (b)), (f, .inr (6, [.ref (fn), .ref (fd), .int (iZ (sg))])), (fn, .inr (9, [.ref (nw), .int (iZ (cn))])), (nw, aI cI (rn) (gn)), (fd, .inr (9, [.ref (dw), .int (iZ (cd))])), (dw, aI cI (rd) (gd))]) [6, 0, 7, 1, 2, 3, 4, 5] rfl
  have hD := hD.sub (ws' := [(eq, .inr (4, [.ref (nu), .ref (de), .int (iZ (((n : Nat) : Int)))])), (nu, aJ cJ (42) (a)), (de, aJ cJ (42) (b)), (f, .inr (6, [.ref (fn), .ref (fd), .int (iZ (sg))])), (fn, .inr (9, [.ref (nw), .int (iZ (cn))])), (nw, aI cI (rn) (gn)), (fd, .inr (9, [.ref (dw), .int (iZ (cd))])), (dw, aI cI (rd) (gd))]) [6, 0, 7, 1, 2, 3, 4, 5] (by decide) rfl
  refine zc_Vv (As := [.long (lZ (a (7 * i + j))), .long (lZ (b (7 * i + j)))]) (rest := []) (wr := [(eq, .inr (4, [.ref (nu), .ref (de), .int (iZ (((n : Nat) : Int)))])), (nu, aJ cJ (42) (a)), (de, aJ cJ (42) (b))]) ⟨hx, hb, hml, hown, hts⟩ (c_fassign l D cI cJ cE cF cR f fn nw fd dw rn rd sg cn cd (a (7 * i + j)) (b (7 * i + j)) gn gd ⟨by omega, by omega⟩ ⟨by omega, by omega⟩ (by omega) (by omega) (by omega) (by omega)) (cwV 2 hts gX4_show_X6_assign rfl rfl rfl (by decide +kernel) ⟨Nat.le_of_ble_eq_true rfl, Nat.le_of_ble_eq_true rfl⟩) hN hK hP hD hS hA [3, 4, 5, 6, 7] [0, 1, 2] rfl rfl (by decide) (by decide) (by decide) (q0 := 0) (ci := 6) rfl rfl rfl rfl hl.1 (Nat.le_of_ble_eq_true rfl) dX4_show_13 ⟨by decide, by decide⟩ (fun w1 H locs hp hP hD hS => ?_)
  obtain ⟨sz, g1, n1, g2, n2, hw9, hsg, hg1, hg2⟩ := hp
  subst hw9
  have hP := hP.sub (ws' := [(eq, .inr (4, [.ref (nu), .ref (de), .int (iZ (((n : Nat) : Int)))])), (nu, aJ cJ (42) (a)), (de, aJ cJ (42) (b)), (f, .inr (6, [.ref (fn), .ref (fd), .int (iZ (sz))])), (fn, .inr (9, [.ref (nw), .int (iZ (((n1 : Nat) : Int)))])), (nw, aI cI (rn) (g1)), (fd, .inr (9, [.ref (dw), .int (iZ (((n2 : Nat) : Int)))])), (dw, aI cI (rd) (g2))]) [0, 1, 2, 3, 4, 5, 6, 7] rfl
  have hD := hD.sub (ws' := [(eq, .inr (4, [.ref (nu), .ref (de), .int (iZ (((n : Nat) : Int)))])), (nu, aJ cJ (42) (a)), (de, aJ cJ (42) (b)), (f, .inr (6, [.ref (fn), .ref (fd), .int (iZ (sz))])), (fn, .inr (9, [.ref (nw), .int (iZ (((n1 : Nat) : Int)))])), (nw, aI cI (rn) (g1)), (fd, .inr (9, [.ref (dw), .int (iZ (((n2 : Nat) : Int)))])), (dw, aI cI (rd) (g2))]) [0, 1, 2, 3, 4, 5, 6, 7] (by decide) rfl
  exact zr_vret hQ hx hb hr hlk dX4_show_16 hK hP hD hS (by omega) (by omega) (⟨sz, g1, n1, g2, n2, rfl, hsg, hg1, hg2⟩)
