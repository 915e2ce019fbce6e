theorem sh_carry {c e : Int} {s : Nat} (hs : s ≤ 30) (hc : 0 ≤ c ∧ c < bg_t s) (he : 0 ≤ e ∧ e < 2147483648) : 0 ≤ c + e * bg_t s ∧ c + e * bg_t s < 2305843009213693952 ∧ 0 ≤ (c + e * bg_t s) / 2147483648 ∧ (c + e * bg_t s) / 2147483648 < bg_t s := by
  have ht := bg_t_pos s
  have h30 : bg_t s ≤ bg_t 30 := bg_t_le hs
  have e30 : bg_t 30 = 1073741824 := by decide
  have h1 : 0 ≤ e * bg_t s := Int.mul_nonneg he.1 (Int.le_of_lt ht)
  have h2 : e * bg_t s ≤ 2147483647 * bg_t s := Int.mul_le_mul_of_nonneg_right (by omega) (Int.le_of_lt ht)
  refine ⟨by omega, by omega, by omega, ?_⟩
  exact Int.ediv_lt_of_lt_mul (by decide) (by omega)
theorem sh_end {g e : Nat → Int} {k : Nat} {c t : Int} (h : bg_val g k + c * bg_p k = bg_val e k * t) : bg_val (zu g k c) (k + 1) = bg_val e k * t := by
  rw [bg_vs, zu_s, bg_zu_lo (Nat.le_refl k), h]
theorem tt_range {c u z v : Int} (hc : -2147483647 ≤ c ∧ c ≤ 0) (hu : 0 ≤ u ∧ u < 2147483648) (hz : 0 ≤ z ∧ z < 2147483648) (hv : 0 ≤ v ∧ v < 2147483648) : -4611686018427387904 ≤ c + (u - z * v) ∧ c + (u - z * v) < 2147483648 ∧ -2147483647 ≤ (c + (u - z * v)) / 2147483648 ∧ (c + (u - z * v)) / 2147483648 ≤ 0 := by
  have := bg_mul_dg hz hv
  omega
theorem tt_step {g u v : Nat → Int} {a i : Nat} {c z : Int} (h : bg_val (fun j => g (a + j)) i + c * bg_p i = bg_val (fun j => u (a + j)) i - z * bg_val v i) (hgi : g (a + i) = u (a + i)) : bg_val (fun j => zu g (a + i) ((c + (g (a + i) - z * v i)) % 2147483648) (a + j)) (i + 1) + ((c + (g (a + i) - z * v i)) / 2147483648) * bg_p (i + 1) = bg_val (fun j => u (a + j)) (i + 1) - z * bg_val v (i + 1) := by
  rw [zu_shift, bg_step h, bg_vs, bg_vs, hgi, Int.sub_mul, Int.mul_add, Int.mul_assoc]
  omega
theorem tt_end {g u : Nat → Int} {a L : Nat} {c Z : Int} (h : bg_val (fun j => g (a + j)) L + c * bg_p L = bg_val (fun j => u (a + j)) L - Z) (hgi : g (a + L) = u (a + L)) : bg_val (fun j => zu g (a + L) ((c + g (a + L)) % 2147483648) (a + j)) (L + 1) + ((c + g (a + L)) / 2147483648) * bg_p (L + 1) = bg_val (fun j => u (a + j)) (L + 1) - Z := by
  rw [zu_shift, bg_step h, bg_vs, hgi]
  omega
theorem gb_step {g u v : Nat → Int} {a i : Nat} {c : Int} (h : bg_val (fun j => g (a + j)) i + c * bg_p i = bg_val (fun j => u (a + j)) i + bg_val v i) (hgi : g (a + i) = u (a + i)) : bg_val (fun j => zu g (a + i) ((c + (g (a + i) + v i)) % 2147483648) (a + j)) (i + 1) + ((c + (g (a + i) + v i)) / 2147483648) * bg_p (i + 1) = bg_val (fun j => u (a + j)) (i + 1) + bg_val v (i + 1) := by
  rw [zu_shift, bg_step h, bg_vs, bg_vs, hgi, Int.add_mul]
  omega
theorem gb_end {g u : Nat → Int} {a L : Nat} {c Z : Int} (h : bg_val (fun j => g (a + j)) L + c * bg_p L = bg_val (fun j => u (a + j)) L + Z) (hgi : g (a + L) = u (a + L)) : bg_val (fun j => zu g (a + L) ((c + g (a + L)) % 2147483648) (a + j)) (L + 1) + ((c + g (a + L)) / 2147483648) * bg_p (L + 1) = bg_val (fun j => u (a + j)) (L + 1) + Z := by
  rw [zu_shift, bg_step h, bg_vs, hgi]
  omega
set_option maxHeartbeats 4000000 in
set_option maxRecDepth 100000 in
/-- Division.shiftUp -/
theorem c_shiftUp (l : Launch) (D : va_G) (cI cJ cE cF cR : ClassId) (b v o r room k sh : Nat) (e g0 : Nat → Int) (v2 : Int) (h2 : bg_ok e k r v2) (hsh : sh ≤ 30) (hk : k < room) (hr : r < 2147483648) (hroom : room < 2147483648) : Cv l D (zty cI cJ cE cF cR) yX1_shiftUp wsX1_shiftUp (zRm 0 0) 0 0 [.ref (b), .int (iZ (((sh : Nat) : Int))), .ref (o)] [(b, .inr (9, [.ref (v), .int (iZ (((k : Nat) : Int)))])), (v, aI cI (r) (e)), (o, aI cI (room) (g0))] (fun w1 => ∃ g : Nat → Int, w1 = [(b, .inr (9, [.ref (v), .int (iZ (((k : Nat) : Int)))])), (v, aI cI (r) (e)), (o, aI cI (room) (g))] ∧ bg_dg g (k + 1) ∧ bg_val g (k + 1) = bg_val e k * bg_t sh) := by
  unfold Cv
  refine zs (Qc := zQv D _ _) (cc := cX1_shiftUp) (maxL := 6) (ret := none) (by decide) rfl (Nat.le_of_ble_eq_true rfl) ?_
  intro zp ze s zm below meth zc ls A args Q hQ hx hb hr hts hown hlk hml hnm hN hA hK hP hD hS hl
  have hin9 : ∀ w ∈ wsX90, w ∈ wsX1_shiftUp := by decide +kernel
  have q_constantLong_RX1_62_2147483647 := hts (.constantLong RX1 62 (2147483647)) (by decide +kernel)
  have hl : lv_has ls 6 [(0, .ref (b)), (1, .int (iZ (((sh : Nat) : Int)))), (2, .ref (o))] := hl
  have hr2 := h2.1
  have lp : ∀ (t : Nat) (i : Nat) (c0 : Int) (g : Nat → Int) (H : Heap) (locs : List Loc) (ls : Array Slot), (i + t = k) → (bg_dg g i) → (0 ≤ c0 ∧ c0 < bg_t sh) → (bg_val g i + c0 * bg_p i = bg_val e i * bg_t sh) →  va_P D vwCl [(b, .inr (9, [.ref (v), .int (iZ (((k : Nat) : Int)))])), (v, aI cI (r) (e)), (o, aI cI (room) (g))] H → va_D A [(b, .inr (9, [.ref (v), .int (iZ (((k : Nat) : Int)))])), (v, aI cI (r) (e)), (o, aI cI (room) (g))] → va_S A s.heap H locs → lv_has ls 6 [(5, .int (iZ (((i : Nat) : Int)))), (3, .long (lZ (c0))), (0, .ref (b)), (1, .int (iZ (((sh : Nat) : Int)))), (2, .ref (o))] → W zp l ze (zRm 0 0) s zm args below meth zc H locs 0 0 Q (F0 zm 15 ls []) := by
    intro t
    induction t with
    | zero =>
      intro i c0 g H locs ls hit hgi hc hv hP hD hS hl
      have hik : i = k := by omega
      refine lv_iload hx hb dX1_shiftUp_15 (lv_at hl 0 rfl) ?_
      refine lv_aload_n hx hb dX1_shiftUp_17 rfl (lv_at hl 2 rfl) ?_
      refine va_getN (D := D) (ci := 9) (v := .int (iZ (((k : Nat) : Int)))) (C := RX9) (T := TX9) (N := 2) hx hb hts hin9 hown hK hP 0 rfl rfl 1 (by decide) (hN.F 6 rfl) (fun _ h9 => h9) rfl dX1_shiftUp_18 ?_
      refine zr_icmp_ge hx hb 58 ⟨by omega, by omega⟩ ⟨by omega, by omega⟩ dX1_shiftUp_21 (by decide) (fun h_21 => ?_) (fun h_21 => ?_)
      · refine lv_aload_n hx hb dX1_shiftUp_58 rfl (lv_at hl 4 rfl) ?_
        refine lv_aload_n hx hb dX1_shiftUp_59 rfl (lv_at hl 2 rfl) ?_
        refine va_getN (D := D) (ci := 9) (v := .int (iZ (((k : Nat) : Int)))) (C := RX9) (T := TX9) (N := 2) hx hb hts hin9 hown hK hP 0 rfl rfl 1 (by decide) (hN.F 6 rfl) (fun _ h9 => h9) rfl dX1_shiftUp_60 ?_
        refine lv_lload_n hx hb dX1_shiftUp_63 rfl (lv_at hl 1 rfl) ?_
        refine zr_l2i hx hb dX1_shiftUp_64 ?_
        refine zr_iast hx hb hK hP hD hS 2 0 rfl rfl (k) (rfl) (by omega) (by omega) dX1_shiftUp_65 (fun H locs hP hD hS => ?_)
        have hP : va_P D vwCl [(b, .inr (9, [.ref (v), .int (iZ (((k : Nat) : Int)))])), (v, aI cI (r) (e)), (o, aI cI (room) (zu (g) (k) (c0)))] H := hP
        have hD : va_D A [(b, .inr (9, [.ref (v), .int (iZ (((k : Nat) : Int)))])), (v, aI cI (r) (e)), (o, aI cI (room) (zu (g) (k) (c0)))] := hD
        exact zr_vret hQ hx hb hr hlk dX1_shiftUp_66 hK hP hD hS (by omega) (by omega) (⟨_, rfl, bg_zu_dgs (hik ▸ hgi) ⟨by omega, by have := bg_t_le hsh; have e30 : bg_t 30 = 1073741824 := (by decide); omega⟩, sh_end (hik ▸ hv)⟩)
      · exfalso; omega
    | succ t ih =>
      intro i c0 g H locs ls hit hgi hc hv hP hD hS hl
      refine lv_iload hx hb dX1_shiftUp_15 (lv_at hl 0 rfl) ?_
      refine lv_aload_n hx hb dX1_shiftUp_17 rfl (lv_at hl 2 rfl) ?_
      refine va_getN (D := D) (ci := 9) (v := .int (iZ (((k : Nat) : Int)))) (C := RX9) (T := TX9) (N := 2) hx hb hts hin9 hown hK hP 0 rfl rfl 1 (by decide) (hN.F 6 rfl) (fun _ h9 => h9) rfl dX1_shiftUp_18 ?_
      refine zr_icmp_ge hx hb 58 ⟨by omega, by omega⟩ ⟨by omega, by omega⟩ dX1_shiftUp_21 (by decide) (fun h_21 => ?_) (fun h_21 => ?_)
      · exfalso; omega
      · have be := h2.2.1 i (by omega)
        have hcr := sh_carry hsh hc be
        have hr2 := h2.1
        refine lv_lload_n hx hb dX1_shiftUp_24 rfl (lv_at hl 1 rfl) ?_
        refine lv_aload_n hx hb dX1_shiftUp_25 rfl (lv_at hl 2 rfl) ?_
        refine va_getN (D := D) (ci := 9) (v := .ref (v)) (C := RX9) (T := TX9) (N := 2) hx hb hts hin9 hown hK hP 0 rfl rfl 0 (by decide) (hN.F 4 rfl) (fun _ h9 => h9) rfl dX1_shiftUp_26 ?_
        refine lv_iload hx hb dX1_shiftUp_29 (lv_at hl 0 rfl) ?_
        refine zr_iald hx hb hK hP 1 0 rfl rfl (i) (rfl) (by omega) (by omega) dX1_shiftUp_31 ?_
        refine zr_i2l hx hb ⟨by omega, by omega⟩ dX1_shiftUp_32 ?_
        refine lv_iload_n hx hb dX1_shiftUp_33 rfl (lv_at hl 3 rfl) ?_
        refine zr_lshl (k := sh) hx hb (by omega) dX1_shiftUp_34 ?_
        refine zr_lorC hx hb (sh) (by omega) (by omega) (hc) dX1_shiftUp_35 ?_
        refine zr_eql (c0 + e i * bg_t sh) rfl ?_
        refine lv_lstore_n (lv' := [(3, .long (lZ (c0 + e i * bg_t sh))), (5, .int (iZ (((i : Nat) : Int)))), (0, .ref (b)), (1, .int (iZ (((sh : Nat) : Int)))), (2, .ref (o))]) hx hb dX1_shiftUp_36 rfl hl (by decide) rfl (fun ls hl => ?_)
        refine lv_aload_n hx hb dX1_shiftUp_37 rfl (lv_at hl 4 rfl) ?_
        refine lv_iload hx hb dX1_shiftUp_38 (lv_at hl 1 rfl) ?_
        refine lv_lload_n hx hb dX1_shiftUp_40 rfl (lv_at hl 0 rfl) ?_
        refine zr_ldc2 hx hb 2147483647 (by decide) hown q_constantLong_RX1_62_2147483647 dX1_shiftUp_41 ?_
        refine zr_land31 hx hb dX1_shiftUp_44 ?_
        refine zr_l2i hx hb dX1_shiftUp_45 ?_
        refine zr_iast hx hb hK hP hD hS 2 0 rfl rfl (i) (rfl) (by omega) (by omega) dX1_shiftUp_46 (fun H locs hP hD hS => ?_)
        have hP : va_P D vwCl [(b, .inr (9, [.ref (v), .int (iZ (((k : Nat) : Int)))])), (v, aI cI (r) (e)), (o, aI cI (room) (zu (g) (i) ((c0 + e i * bg_t sh) % 2147483648)))] H := hP
        have hD : va_D A [(b, .inr (9, [.ref (v), .int (iZ (((k : Nat) : Int)))])), (v, aI cI (r) (e)), (o, aI cI (room) (zu (g) (i) ((c0 + e i * bg_t sh) % 2147483648)))] := hD
        refine lv_lload_n hx hb dX1_shiftUp_47 rfl (lv_at hl 0 rfl) ?_
        refine lv_bipush (v := iZ 31) hx hb dX1_shiftUp_48 (by decide) ?_
        refine zr_lshr31 hx hb ⟨by omega, by omega⟩ dX1_shiftUp_50 ?_
        refine lv_lstore_n (lv' := [(3, .long (lZ ((c0 + e i * bg_t sh) / 2147483648))), (5, .int (iZ (((i : Nat) : Int)))), (0, .ref (b)), (1, .int (iZ (((sh : Nat) : Int)))), (2, .ref (o))]) hx hb dX1_shiftUp_51 rfl hl (by decide) rfl (fun ls hl => ?_)
        refine lv_iinc (v := iZ (((i + 1 : Nat) : Int))) (lv' := [(5, .int (iZ (((i + 1 : Nat) : Int)))), (3, .long (lZ ((c0 + e i * bg_t sh) / 2147483648))), (0, .ref (b)), (1, .int (iZ (((sh : Nat) : Int)))), (2, .ref (o))]) hx hb dX1_shiftUp_52 hl (k := 1) rfl (by rw [show ((i + 1 : Nat) : Int) = ((i : Nat) : Int) + 1 by omega]; exact iZ_add _ _) (by decide) rfl (fun ls hl => ?_)
        refine lv_goto (tgt := 15) hx hb dX1_shiftUp_55 (by decide) ?_
        exact ih (i + 1) _ _ H locs ls (by omega) (bg_zu_dgs hgi (bg_mod _)) hcr.2.2 (by have q := bg_step (x := e i * bg_t sh) hv; rw [q, bg_vs, Int.add_mul, Int.mul_assoc, Int.mul_assoc, Int.mul_comm (bg_p i)]) hP hD hS (lv_sub hl [0, 1, 2, 3, 4] rfl)
  refine lv_aload_n hx hb dX1_shiftUp_0 rfl (lv_at hl 0 rfl) ?_
  refine va_getN (D := D) (ci := 9) (v := .int (iZ (((k : Nat) : Int)))) (C := RX9) (T := TX9) (N := 2) hx hb hts hin9 hown hK hP 0 rfl rfl 1 (by decide) (hN.F 6 rfl) (fun _ h9 => h9) rfl dX1_shiftUp_1 ?_
  refine lv_aload_n hx hb dX1_shiftUp_4 rfl (lv_at hl 2 rfl) ?_
  refine zr_alen hx hb hK hP 2 0 rfl rfl dX1_shiftUp_5 ?_
  refine zr_icmp_lt hx hb 10 ⟨by omega, by omega⟩ ⟨by omega, by omega⟩ dX1_shiftUp_6 (by decide) (fun h_6 => ?_) (fun h_6 => ?_)
  · refine lv_lconst (v := lZ 0) hx hb dX1_shiftUp_10 rfl ?_
    refine lv_lstore_n (lv' := [(3, .long (lZ (0))), (0, .ref (b)), (1, .int (iZ (((sh : Nat) : Int)))), (2, .ref (o))]) hx hb dX1_shiftUp_11 rfl hl (by decide) rfl (fun ls hl => ?_)
    refine lv_iconst (v := iZ 0) hx hb dX1_shiftUp_12 rfl ?_
    refine lv_istore (lv' := [(5, .int (iZ (0))), (3, .long (lZ (0))), (0, .ref (b)), (1, .int (iZ (((sh : Nat) : Int)))), (2, .ref (o))]) hx hb dX1_shiftUp_13 hl (by decide) rfl (fun ls hl => ?_)
    exact lp k 0 0 g0 s.heap [] ls (by omega) (fun i hi => absurd hi (Nat.not_lt_zero i)) ⟨by omega, bg_t_pos sh⟩ (by rw [bg_v0, bg_v0, Int.zero_mul, Int.zero_mul]; rfl) hP hD hS (lv_sub hl [0, 1, 2, 3, 4] rfl)
  · exfalso; omega

set_option maxHeartbeats 4000000 in
set_option maxRecDepth 100000 in
/-- Division.shiftDown -/
theorem c_shiftDown (l : Launch) (D : va_G) (cI cJ cE cF cR : ClassId) (dv dd ds o room L sh : Nat) (u g0 : Nat → Int) (hu : bg_dg u L) (hsh : sh ≤ 30) (hL0 : 0 < L) (hL : L ≤ 97) (hLr : L ≤ room) (hroom : room < 2147483648) : Cv l D (zty cI cJ cE cF cR) yX1_shiftDown wsX1_shiftDown (zRm 0 0) 0 0 [.ref (dv), .int (iZ (((L : Nat) : Int))), .int (iZ (((sh : Nat) : Int))), .ref (o)] [(dv, .inr (1, [.ref (dd), .ref (ds)])), (dd, aI cI (97) (u)), (o, aI cI (room) (g0))] (fun w1 => ∃ g : Nat → Int, w1 = [(dv, .inr (1, [.ref (dd), .ref (ds)])), (dd, aI cI (97) (u)), (o, aI cI (room) (g))] ∧ bg_dg g L ∧ bg_val g L = bg_val u L / bg_t sh) := by
  unfold Cv
  refine zs (Qc := zQv D _ _) (cc := cX1_shiftDown) (maxL := 7) (ret := none) (by decide) rfl (Nat.le_of_ble_eq_true rfl) ?_
  intro zp ze s zm below meth zc ls A args Q hQ hx hb hr hts hown hlk hml hnm hN hA hK hP hD hS hl
  have q_f_RX1_9_Division_dividend_I := hts (.fieldLink RX1 9 "LimbSolver$Division" "dividend" "[I") (by decide +kernel)
  have hin1 : ∀ w ∈ wsX10, w ∈ wsX1_shiftDown := by decide +kernel
  have q_constant_RX1_64_2147483647 := hts (.constant RX1 64 (2147483647)) (by decide +kernel)
  have hl : lv_has ls 7 [(0, .ref (dv)), (1, .int (iZ (((L : Nat) : Int)))), (2, .int (iZ (((sh : Nat) : Int)))), (3, .ref (o))] := hl
  have lp : ∀ (t : Nat) (i : Nat) (g : Nat → Int) (H : Heap) (locs : List Loc) (ls : Array Slot), (i + t = L) → (bg_dg g i) → (bg_t sh * bg_val g i = bg_val u i - u 0 % bg_t sh + ((if i < L then u i else 0) % bg_t sh) * bg_p i) →  va_P D vwCl [(dv, .inr (1, [.ref (dd), .ref (ds)])), (dd, aI cI (97) (u)), (o, aI cI (room) (g))] H → va_D A [(dv, .inr (1, [.ref (dd), .ref (ds)])), (dd, aI cI (97) (u)), (o, aI cI (room) (g))] → va_S A s.heap H locs → lv_has ls 7 [(4, .int (iZ (((i : Nat) : Int)))), (0, .ref (dv)), (1, .int (iZ (((L : Nat) : Int)))), (2, .int (iZ (((sh : Nat) : Int)))), (3, .ref (o))] → W zp l ze (zRm 0 0) s zm args below meth zc H locs 0 0 Q (F0 zm 3 ls []) := by
    intro t
    induction t with
    | zero =>
      intro i g H locs ls hit hgi hv hP hD hS hl
      have hik : i = L := by omega
      refine lv_iload hx hb dX1_shiftDown_3 (lv_at hl 0 rfl) ?_
      refine lv_iload_n hx hb dX1_shiftDown_5 rfl (lv_at hl 2 rfl) ?_
      refine zr_icmp_ge hx hb 70 ⟨by omega, by omega⟩ ⟨by omega, by omega⟩ dX1_shiftDown_6 (by decide) (fun h_6 => ?_) (fun h_6 => ?_)
      · exact zr_vret hQ hx hb hr hlk dX1_shiftDown_70 hK hP hD hS (by omega) (by omega) (⟨g, rfl, hik ▸ hgi, sd_end ⟨Int.emod_nonneg _ (Int.ne_of_gt (bg_t_pos sh)), Int.emod_lt_of_pos _ (bg_t_pos sh)⟩ (by subst hik; rw [if_neg (Nat.lt_irrefl i), Int.zero_emod, Int.zero_mul, Int.add_zero] at hv; exact hv)⟩)
      · exfalso; omega
    | succ t ih =>
      intro i g H locs ls hit hgi hv hP hD hS hl
      have bu := hu i (by omega)
      have jn : ∀ (y : Int) (H : Heap) (locs : List Loc) (ls : Array Slot), (0 ≤ y ∧ y < 2147483648) → (y = if i + 1 < L then u (i + 1) else 0) →  va_P D vwCl [(dv, .inr (1, [.ref (dd), .ref (ds)])), (dd, aI cI (97) (u)), (o, aI cI (room) (g))] H → va_D A [(dv, .inr (1, [.ref (dd), .ref (ds)])), (dd, aI cI (97) (u)), (o, aI cI (room) (g))] → va_S A s.heap H locs → lv_has ls 7 [(4, .int (iZ (((i : Nat) : Int)))), (0, .ref (dv)), (1, .int (iZ (((L : Nat) : Int)))), (2, .int (iZ (((sh : Nat) : Int)))), (3, .ref (o))] → W zp l ze (zRm 0 0) s zm args below meth zc H locs 0 0 Q (F0 zm 38 ls [.long (lZ (y))]) := by
        intro y H locs ls hy0 hyd hP hD hS hl
        refine lv_lstore (lv' := [(5, .long (lZ (y))), (4, .int (iZ (((i : Nat) : Int)))), (0, .ref (dv)), (1, .int (iZ (((L : Nat) : Int)))), (2, .int (iZ (((sh : Nat) : Int)))), (3, .ref (o))]) hx hb dX1_shiftDown_38 hl (by decide) rfl (fun ls hl => ?_)
        refine lv_aload_n hx hb dX1_shiftDown_40 rfl (lv_at hl 5 rfl) ?_
        refine lv_iload hx hb dX1_shiftDown_41 (lv_at hl 1 rfl) ?_
        refine lv_lload hx hb dX1_shiftDown_43 (lv_at hl 0 rfl) ?_
        refine lv_bipush (v := iZ 31) hx hb dX1_shiftDown_45 (by decide) ?_
        refine zr_lshl31 hx hb dX1_shiftDown_47 ?_
        refine lv_aload_n hx hb dX1_shiftDown_48 rfl (lv_at hl 2 rfl) ?_
        refine va_get (D := D) (ci := 1) (v := .ref (dd)) (C := RX1) (T := TX1) (N := 2) hx hb hts hin1 hown hK hP 0 rfl rfl 0 (by decide) q_f_RX1_9_Division_dividend_I (fun _ h9 => h9) rfl dX1_shiftDown_49 ?_
        refine lv_iload hx hb dX1_shiftDown_52 (lv_at hl 1 rfl) ?_
        refine zr_iald hx hb hK hP 1 0 rfl rfl (i) (rfl) (by omega) (by omega) dX1_shiftDown_54 ?_
        refine zr_i2l hx hb ⟨by omega, by omega⟩ dX1_shiftDown_55 ?_
        refine zr_lor31 hx hb (by omega) (by omega) dX1_shiftDown_56 ?_
        refine lv_iload_n hx hb dX1_shiftDown_57 rfl (lv_at hl 4 rfl) ?_
        refine zr_lushr (k := sh) hx hb ⟨by omega, by omega⟩ (by omega) (by omega) dX1_shiftDown_58 ?_
        refine zr_eql ((y * 2147483648 + u i) / bg_t sh) rfl ?_
        refine zr_l2i hx hb dX1_shiftDown_59 ?_
        refine zr_ldc hx hb 2147483647 (by decide) hown q_constant_RX1_64_2147483647 dX1_shiftDown_60 ?_
        refine zr_iand31 hx hb dX1_shiftDown_62 ?_
        refine zr_iast hx hb hK hP hD hS 2 0 rfl rfl (i) (rfl) (by omega) (by omega) dX1_shiftDown_63 (fun H locs hP hD hS => ?_)
        have hP : va_P D vwCl [(dv, .inr (1, [.ref (dd), .ref (ds)])), (dd, aI cI (97) (u)), (o, aI cI (room) (zu (g) (i) (((y * 2147483648 + u i) / bg_t sh) % 2147483648)))] H := hP
        have hD : va_D A [(dv, .inr (1, [.ref (dd), .ref (ds)])), (dd, aI cI (97) (u)), (o, aI cI (room) (zu (g) (i) (((y * 2147483648 + u i) / bg_t sh) % 2147483648)))] := hD
        refine lv_iinc (v := iZ (((i + 1 : Nat) : Int))) (lv' := [(4, .int (iZ (((i + 1 : Nat) : Int)))), (5, .long (lZ (y))), (0, .ref (dv)), (1, .int (iZ (((L : Nat) : Int)))), (2, .int (iZ (((sh : Nat) : Int)))), (3, .ref (o))]) hx hb dX1_shiftDown_64 hl (k := 1) rfl (by rw [show ((i + 1 : Nat) : Int) = ((i : Nat) : Int) + 1 by omega]; exact iZ_add _ _) (by decide) rfl (fun ls hl => ?_)
        refine lv_goto (tgt := 3) hx hb dX1_shiftDown_67 (by decide) ?_
        exact ih (i + 1) _ H locs ls (by omega) (bg_zu_dgs hgi (bg_mod _)) (by rw [← hyd]; rw [if_pos (show i < L by omega)] at hv; exact sd_step hsh bu hy0.1 hv) hP hD hS (lv_sub hl [0, 2, 3, 4, 5] rfl)
      refine lv_iload hx hb dX1_shiftDown_3 (lv_at hl 0 rfl) ?_
      refine lv_iload_n hx hb dX1_shiftDown_5 rfl (lv_at hl 2 rfl) ?_
      refine zr_icmp_ge hx hb 70 ⟨by omega, by omega⟩ ⟨by omega, by omega⟩ dX1_shiftDown_6 (by decide) (fun h_6 => ?_) (fun h_6 => ?_)
      · exfalso; omega
      · refine lv_iload hx hb dX1_shiftDown_9 (lv_at hl 0 rfl) ?_
        refine lv_aload_n hx hb dX1_shiftDown_11 rfl (lv_at hl 4 rfl) ?_
        refine zr_alen hx hb hK hP 2 0 rfl rfl dX1_shiftDown_12 ?_
        refine zr_icmp_ge hx hb 70 ⟨by omega, by omega⟩ ⟨by omega, by omega⟩ dX1_shiftDown_13 (by decide) (fun h_13 => ?_) (fun h_13 => ?_)
        · exfalso; omega
        · refine lv_iload hx hb dX1_shiftDown_16 (lv_at hl 0 rfl) ?_
          refine lv_iconst (v := iZ 1) hx hb dX1_shiftDown_18 rfl ?_
          refine zr_iadd hx hb dX1_shiftDown_19 ?_
          refine lv_iload_n hx hb dX1_shiftDown_20 rfl (lv_at hl 2 rfl) ?_
          refine zr_icmp_ge hx hb 37 ⟨by omega, by omega⟩ ⟨by omega, by omega⟩ dX1_shiftDown_21 (by decide) (fun h_21 => ?_) (fun h_21 => ?_)
          · refine lv_lconst (v := lZ 0) hx hb dX1_shiftDown_37 rfl ?_
            exact jn 0 H locs ls ⟨by omega, by omega⟩ (by rw [if_neg (by omega)]) hP hD hS hl
          · refine lv_aload_n hx hb dX1_shiftDown_24 rfl (lv_at hl 1 rfl) ?_
            refine va_get (D := D) (ci := 1) (v := .ref (dd)) (C := RX1) (T := TX1) (N := 2) hx hb hts hin1 hown hK hP 0 rfl rfl 0 (by decide) q_f_RX1_9_Division_dividend_I (fun _ h9 => h9) rfl dX1_shiftDown_25 ?_
            refine lv_iload hx hb dX1_shiftDown_28 (lv_at hl 0 rfl) ?_
            refine lv_iconst (v := iZ 1) hx hb dX1_shiftDown_30 rfl ?_
            refine zr_iadd hx hb dX1_shiftDown_31 ?_
            refine zr_iald hx hb hK hP 1 0 rfl rfl (i + 1) (by omega) (by omega) (by omega) dX1_shiftDown_32 ?_
            have bu1 := hu (i + 1) (by omega)
            refine zr_i2l hx hb ⟨by omega, by omega⟩ dX1_shiftDown_33 ?_
            refine lv_goto (tgt := 38) hx hb dX1_shiftDown_34 (by decide) ?_
            exact jn _ H locs ls ⟨by omega, by omega⟩ (by rw [if_pos (by omega)]) hP hD hS hl
  refine lv_iconst (v := iZ 0) hx hb dX1_shiftDown_0 rfl ?_
  refine lv_istore (lv' := [(4, .int (iZ (0))), (0, .ref (dv)), (1, .int (iZ (((L : Nat) : Int)))), (2, .int (iZ (((sh : Nat) : Int)))), (3, .ref (o))]) hx hb dX1_shiftDown_1 hl (by decide) rfl (fun ls hl => ?_)
  exact lp L 0 g0 s.heap [] ls (by omega) (fun i hi => absurd hi (Nat.not_lt_zero i)) (by rw [if_pos hL0, bg_v0, bg_v0, bg_p0, Int.mul_zero]; omega) hP hD hS (lv_sub hl [0, 1, 2, 3, 4] rfl)

set_option maxHeartbeats 4000000 in
set_option maxRecDepth 100000 in
/-- Division.takeTimes -/
theorem c_takeTimes (l : Launch) (D : va_G) (cI cJ cE cF cR : ClassId) (dv dd ds L at_ M : Nat) (z : Int) (u v : Nat → Int) (hz : 0 ≤ z ∧ z < 2147483648) (hu : bg_dg u M) (hvd : bg_dg v L) (hM : at_ + L < M) (hM2 : M ≤ 97) : Ci l D (zty cI cJ cE cF cR) yX1_takeTimes wsX1_takeTimes (zRm 0 0) 0 0 [.ref (dv), .int (iZ (z)), .int (iZ (((at_ : Nat) : Int))), .int (iZ (((L : Nat) : Int)))] [(dv, .inr (1, [.ref (dd), .ref (ds)])), (dd, aI cI (97) (u)), (ds, aI cI (97) (v))] (fun r w1 => ∃ g : Nat → Int, w1 = [(dv, .inr (1, [.ref (dd), .ref (ds)])), (dd, aI cI (97) (g)), (ds, aI cI (97) (v))] ∧ bg_dg g M ∧ (∀ j : Nat, j < at_ ∨ at_ + L < j → g j = u j) ∧ ((r = 1 ∧ bg_val (fun j => g (at_ + j)) (L + 1) = bg_val (fun j => u (at_ + j)) (L + 1) - z * bg_val v L + bg_p (L + 1)) ∨ (r = 0 ∧ bg_val (fun j => g (at_ + j)) (L + 1) = bg_val (fun j => u (at_ + j)) (L + 1) - z * bg_val v L))) := by
  unfold Ci
  refine zs (Qc := zQi D _ _) (cc := cX1_takeTimes) (maxL := 9) (ret := (some .boolean)) (by decide) rfl (Nat.le_of_ble_eq_true rfl) ?_
  intro zp ze s zm below meth zc ls A args Q hQ hx hb hr hts hown hlk hml hnm hN hA hK hP hD hS hl
  have q_f_RX1_9_Division_dividend_I := hts (.fieldLink RX1 9 "LimbSolver$Division" "dividend" "[I") (by decide +kernel)
  have hin1 : ∀ w ∈ wsX10, w ∈ wsX1_takeTimes := by decide +kernel
  have q_constantLong_RX1_62_2147483647 := hts (.constantLong RX1 62 (2147483647)) (by decide +kernel)
  have q_f_RX1_15_Division_divisor_I := hts (.fieldLink RX1 15 "LimbSolver$Division" "divisor" "[I") (by decide +kernel)
  have hl : lv_has ls 9 [(0, .ref (dv)), (1, .int (iZ (z))), (2, .int (iZ (((at_ : Nat) : Int)))), (3, .int (iZ (((L : Nat) : Int))))] := hl
  have lp : ∀ (t : Nat) (i : Nat) (c0 : Int) (g : Nat → Int) (H : Heap) (locs : List Loc) (ls : Array Slot), (i + t = L) → (bg_dg g M) → (∀ j : Nat, j < at_ ∨ at_ + i ≤ j → g j = u j) → (-2147483647 ≤ c0 ∧ c0 ≤ 0) → (bg_val (fun j => g (at_ + j)) i + c0 * bg_p i = bg_val (fun j => u (at_ + j)) i - z * bg_val v i) →  va_P D vwCl [(dv, .inr (1, [.ref (dd), .ref (ds)])), (dd, aI cI (97) (g)), (ds, aI cI (97) (v))] H → va_D A [(dv, .inr (1, [.ref (dd), .ref (ds)])), (dd, aI cI (97) (g)), (ds, aI cI (97) (v))] → va_S A s.heap H locs → lv_has ls 9 [(8, .int (iZ (((i : Nat) : Int)))), (6, .long (lZ (c0))), (4, .long (lZ (z))), (0, .ref (dv)), (1, .int (iZ (z))), (2, .int (iZ (((at_ : Nat) : Int)))), (3, .int (iZ (((L : Nat) : Int))))] → W zp l ze (zRm 0 0) s zm args below meth zc H locs 0 0 Q (F0 zm 10 ls []) := by
    intro t
    induction t with
    | zero =>
      intro i c0 g H locs ls hit hg hge hc hv hP hD hS hl
      refine lv_iload hx hb dX1_takeTimes_10 (lv_at hl 0 rfl) ?_
      refine lv_iload_n hx hb dX1_takeTimes_12 rfl (lv_at hl 6 rfl) ?_
      refine zr_icmp_ge hx hb 72 ⟨by omega, by omega⟩ ⟨by omega, by omega⟩ dX1_takeTimes_13 (by decide) (fun h_13 => ?_) (fun h_13 => ?_)
      · have hik : i = L := by omega
        have hvL : bg_val (fun j => g (at_ + j)) L + c0 * bg_p L = bg_val (fun j => u (at_ + j)) L - z * bg_val v L := hik ▸ hv
        have bt := hg (at_ + L) (by omega)
        refine lv_lload hx hb dX1_takeTimes_72 (lv_at hl 1 rfl) ?_
        refine lv_aload_n hx hb dX1_takeTimes_74 rfl (lv_at hl 3 rfl) ?_
        refine va_get (D := D) (ci := 1) (v := .ref (dd)) (C := RX1) (T := TX1) (N := 2) hx hb hts hin1 hown hK hP 0 rfl rfl 0 (by decide) q_f_RX1_9_Division_dividend_I (fun _ h9 => h9) rfl dX1_takeTimes_75 ?_
        refine lv_iload_n hx hb dX1_takeTimes_78 rfl (lv_at hl 5 rfl) ?_
        refine lv_iload_n hx hb dX1_takeTimes_79 rfl (lv_at hl 6 rfl) ?_
        refine zr_iadd hx hb dX1_takeTimes_80 ?_
        refine zr_iald hx hb hK hP 1 0 rfl rfl (at_ + L) (by omega) (by omega) (by omega) dX1_takeTimes_81 ?_
        refine zr_i2l hx hb ⟨by omega, by omega⟩ dX1_takeTimes_82 ?_
        refine zr_ladd hx hb dX1_takeTimes_83 ?_
        refine lv_lstore (lv' := [(6, .long (lZ ((c0) + ((g) (at_ + L))))), (8, .int (iZ (((i : Nat) : Int)))), (4, .long (lZ (z))), (0, .ref (dv)), (1, .int (iZ (z))), (2, .int (iZ (((at_ : Nat) : Int)))), (3, .int (iZ (((L : Nat) : Int))))]) hx hb dX1_takeTimes_84 hl (by decide) rfl (fun ls hl => ?_)
        refine lv_aload_n hx hb dX1_takeTimes_86 rfl (lv_at hl 3 rfl) ?_
        refine va_get (D := D) (ci := 1) (v := .ref (dd)) (C := RX1) (T := TX1) (N := 2) hx hb hts hin1 hown hK hP 0 rfl rfl 0 (by decide) q_f_RX1_9_Division_dividend_I (fun _ h9 => h9) rfl dX1_takeTimes_87 ?_
        refine lv_iload_n hx hb dX1_takeTimes_90 rfl (lv_at hl 5 rfl) ?_
        refine lv_iload_n hx hb dX1_takeTimes_91 rfl (lv_at hl 6 rfl) ?_
        refine zr_iadd hx hb dX1_takeTimes_92 ?_
        refine lv_lload hx hb dX1_takeTimes_93 (lv_at hl 0 rfl) ?_
        refine zr_ldc2 hx hb 2147483647 (by decide) hown q_constantLong_RX1_62_2147483647 dX1_takeTimes_95 ?_
        refine zr_land31 hx hb dX1_takeTimes_98 ?_
        refine zr_l2i hx hb dX1_takeTimes_99 ?_
        refine zr_iast hx hb hK hP hD hS 1 0 rfl rfl (at_ + L) (by omega) (by omega) (by omega) dX1_takeTimes_100 (fun H locs hP hD hS => ?_)
        have hP : va_P D vwCl [(dv, .inr (1, [.ref (dd), .ref (ds)])), (dd, aI cI (97) (zu (g) (at_ + L) (((c0) + ((g) (at_ + L))) % 2147483648))), (ds, aI cI (97) (v))] H := hP
        have hD : va_D A [(dv, .inr (1, [.ref (dd), .ref (ds)])), (dd, aI cI (97) (zu (g) (at_ + L) (((c0) + ((g) (at_ + L))) % 2147483648))), (ds, aI cI (97) (v))] := hD
        refine lv_lload hx hb dX1_takeTimes_101 (lv_at hl 0 rfl) ?_
        refine lv_lconst (v := lZ 0) hx hb dX1_takeTimes_103 rfl ?_
        refine zr_lcmp_ge hx hb 112 ⟨by omega, by omega⟩ ⟨by omega, by omega⟩ dX1_takeTimes_104 dX1_takeTimes_105 (by decide) (fun h_104 => ?_) (fun h_104 => ?_)
        · refine lv_iconst (v := iZ 0) hx hb dX1_takeTimes_112 rfl ?_
          exact zr_zret hQ hx hb hr hlk dX1_takeTimes_113 hK hP hD hS (by omega) (by omega) (by omega) (⟨_, rfl, bg_zu_dg hg (bg_mod _), (fun j hj => by rw [zu_n g _ (by omega)]; exact hge j (by omega)), Or.inr ⟨rfl, by have q := tt_end hvL (hge (at_ + L) (by omega)); rw [show (c0 + g (at_ + L)) / 2147483648 = 0 by omega] at q; omega⟩⟩)
        · refine lv_iconst (v := iZ 1) hx hb dX1_takeTimes_108 rfl ?_
          refine lv_goto (tgt := 113) hx hb dX1_takeTimes_109 (by decide) ?_
          exact zr_zret hQ hx hb hr hlk dX1_takeTimes_113 hK hP hD hS (by omega) (by omega) (by omega) (⟨_, rfl, bg_zu_dg hg (bg_mod _), (fun j hj => by rw [zu_n g _ (by omega)]; exact hge j (by omega)), Or.inl ⟨rfl, by have q := tt_end hvL (hge (at_ + L) (by omega)); rw [show (c0 + g (at_ + L)) / 2147483648 = -1 by omega] at q; omega⟩⟩)
      · exfalso; omega
    | succ t ih =>
      intro i c0 g H locs ls hit hg hge hc hv hP hD hS hl
      refine lv_iload hx hb dX1_takeTimes_10 (lv_at hl 0 rfl) ?_
      refine lv_iload_n hx hb dX1_takeTimes_12 rfl (lv_at hl 6 rfl) ?_
      refine zr_icmp_ge hx hb 72 ⟨by omega, by omega⟩ ⟨by omega, by omega⟩ dX1_takeTimes_13 (by decide) (fun h_13 => ?_) (fun h_13 => ?_)
      · exfalso; omega
      · have bu := hg (at_ + i) (by omega)
        have bv := hvd i (by omega)
        have hr := tt_range hc bu hz bv
        refine lv_lload hx hb dX1_takeTimes_16 (lv_at hl 1 rfl) ?_
        refine lv_aload_n hx hb dX1_takeTimes_18 rfl (lv_at hl 3 rfl) ?_
        refine va_get (D := D) (ci := 1) (v := .ref (dd)) (C := RX1) (T := TX1) (N := 2) hx hb hts hin1 hown hK hP 0 rfl rfl 0 (by decide) q_f_RX1_9_Division_dividend_I (fun _ h9 => h9) rfl dX1_takeTimes_19 ?_
        refine lv_iload_n hx hb dX1_takeTimes_22 rfl (lv_at hl 5 rfl) ?_
        refine lv_iload hx hb dX1_takeTimes_23 (lv_at hl 0 rfl) ?_
        refine zr_iadd hx hb dX1_takeTimes_25 ?_
        refine zr_iald hx hb hK hP 1 0 rfl rfl (at_ + i) (by omega) (by omega) (by omega) dX1_takeTimes_26 ?_
        refine zr_i2l hx hb ⟨by omega, by omega⟩ dX1_takeTimes_27 ?_
        refine lv_lload hx hb dX1_takeTimes_28 (lv_at hl 2 rfl) ?_
        refine lv_aload_n hx hb dX1_takeTimes_30 rfl (lv_at hl 3 rfl) ?_
        refine va_get (D := D) (ci := 1) (v := .ref (ds)) (C := RX1) (T := TX1) (N := 2) hx hb hts hin1 hown hK hP 0 rfl rfl 1 (by decide) q_f_RX1_15_Division_divisor_I (fun _ h9 => h9) rfl dX1_takeTimes_31 ?_
        refine lv_iload hx hb dX1_takeTimes_34 (lv_at hl 0 rfl) ?_
        refine zr_iald hx hb hK hP 2 0 rfl rfl (i) (by omega) (by omega) (by omega) dX1_takeTimes_36 ?_
        refine zr_i2l hx hb ⟨by omega, by omega⟩ dX1_takeTimes_37 ?_
        refine zr_lmul hx hb dX1_takeTimes_38 ?_
        refine zr_lsub hx hb dX1_takeTimes_39 ?_
        refine zr_ladd hx hb dX1_takeTimes_40 ?_
        refine lv_lstore (lv' := [(6, .long (lZ ((c0) + (((g) (at_ + i)) - ((z) * ((v) (i))))))), (8, .int (iZ (((i : Nat) : Int)))), (4, .long (lZ (z))), (0, .ref (dv)), (1, .int (iZ (z))), (2, .int (iZ (((at_ : Nat) : Int)))), (3, .int (iZ (((L : Nat) : Int))))]) hx hb dX1_takeTimes_41 hl (by decide) rfl (fun ls hl => ?_)
        refine lv_aload_n hx hb dX1_takeTimes_43 rfl (lv_at hl 3 rfl) ?_
        refine va_get (D := D) (ci := 1) (v := .ref (dd)) (C := RX1) (T := TX1) (N := 2) hx hb hts hin1 hown hK hP 0 rfl rfl 0 (by decide) q_f_RX1_9_Division_dividend_I (fun _ h9 => h9) rfl dX1_takeTimes_44 ?_
        refine lv_iload_n hx hb dX1_takeTimes_47 rfl (lv_at hl 5 rfl) ?_
        refine lv_iload hx hb dX1_takeTimes_48 (lv_at hl 1 rfl) ?_
        refine zr_iadd hx hb dX1_takeTimes_50 ?_
        refine lv_lload hx hb dX1_takeTimes_51 (lv_at hl 0 rfl) ?_
        refine zr_ldc2 hx hb 2147483647 (by decide) hown q_constantLong_RX1_62_2147483647 dX1_takeTimes_53 ?_
        refine zr_land31 hx hb dX1_takeTimes_56 ?_
        refine zr_l2i hx hb dX1_takeTimes_57 ?_
        refine zr_iast hx hb hK hP hD hS 1 0 rfl rfl (at_ + i) (by omega) (by omega) (by omega) dX1_takeTimes_58 (fun H locs hP hD hS => ?_)
        have hP : va_P D vwCl [(dv, .inr (1, [.ref (dd), .ref (ds)])), (dd, aI cI (97) (zu (g) (at_ + i) (((c0) + (((g) (at_ + i)) - ((z) * ((v) (i))))) % 2147483648))), (ds, aI cI (97) (v))] H := hP
        have hD : va_D A [(dv, .inr (1, [.ref (dd), .ref (ds)])), (dd, aI cI (97) (zu (g) (at_ + i) (((c0) + (((g) (at_ + i)) - ((z) * ((v) (i))))) % 2147483648))), (ds, aI cI (97) (v))] := hD
        refine lv_lload hx hb dX1_takeTimes_59 (lv_at hl 0 rfl) ?_
        refine lv_bipush (v := iZ 31) hx hb dX1_takeTimes_61 (by decide) ?_
        refine zr_lshr31 hx hb ⟨by omega, by omega⟩ dX1_takeTimes_63 ?_
        refine lv_lstore (lv' := [(6, .long (lZ (((c0) + (((g) (at_ + i)) - ((z) * ((v) (i))))) / 2147483648))), (8, .int (iZ (((i : Nat) : Int)))), (4, .long (lZ (z))), (0, .ref (dv)), (1, .int (iZ (z))), (2, .int (iZ (((at_ : Nat) : Int)))), (3, .int (iZ (((L : Nat) : Int))))]) hx hb dX1_takeTimes_64 hl (by decide) rfl (fun ls hl => ?_)
        refine lv_iinc (v := iZ (((i + 1 : Nat) : Int))) (lv' := [(8, .int (iZ (((i + 1 : Nat) : Int)))), (6, .long (lZ (((c0) + (((g) (at_ + i)) - ((z) * ((v) (i))))) / 2147483648))), (4, .long (lZ (z))), (0, .ref (dv)), (1, .int (iZ (z))), (2, .int (iZ (((at_ : Nat) : Int)))), (3, .int (iZ (((L : Nat) : Int))))]) hx hb dX1_takeTimes_66 hl (k := 1) rfl (by rw [show ((i + 1 : Nat) : Int) = ((i : Nat) : Int) + 1 by omega]; exact iZ_add _ _) (by decide) rfl (fun ls hl => ?_)
        refine lv_goto (tgt := 10) hx hb dX1_takeTimes_69 (by decide) ?_
        exact ih (i + 1) _ _ H locs ls (by omega) (bg_zu_dg hg (bg_mod _)) (fun j hj => by rw [zu_n g _ (by omega)]; exact hge j (by omega)) hr.2.2 (tt_step hv (hge (at_ + i) (by omega))) hP hD hS (lv_sub hl [0, 1, 2, 3, 4, 5, 6] rfl)
  refine lv_iload_n hx hb dX1_takeTimes_0 rfl (lv_at hl 1 rfl) ?_
  refine zr_i2l hx hb ⟨by omega, by omega⟩ dX1_takeTimes_1 ?_
  refine lv_lstore (lv' := [(4, .long (lZ (z))), (0, .ref (dv)), (1, .int (iZ (z))), (2, .int (iZ (((at_ : Nat) : Int)))), (3, .int (iZ (((L : Nat) : Int))))]) hx hb dX1_takeTimes_2 hl (by decide) rfl (fun ls hl => ?_)
  refine lv_lconst (v := lZ 0) hx hb dX1_takeTimes_4 rfl ?_
  refine lv_lstore (lv' := [(6, .long (lZ (0))), (4, .long (lZ (z))), (0, .ref (dv)), (1, .int (iZ (z))), (2, .int (iZ (((at_ : Nat) : Int)))), (3, .int (iZ (((L : Nat) : Int))))]) hx hb dX1_takeTimes_5 hl (by decide) rfl (fun ls hl => ?_)
  refine lv_iconst (v := iZ 0) hx hb dX1_takeTimes_7 rfl ?_
  refine lv_istore (lv' := [(8, .int (iZ (0))), (6, .long (lZ (0))), (4, .long (lZ (z))), (0, .ref (dv)), (1, .int (iZ (z))), (2, .int (iZ (((at_ : Nat) : Int)))), (3, .int (iZ (((L : Nat) : Int))))]) hx hb dX1_takeTimes_8 hl (by decide) rfl (fun ls hl => ?_)
  exact lp L 0 0 u s.heap [] ls (by omega) hu (fun j _ => rfl) ⟨by omega, by omega⟩ (by simp [bg_v0]) hP hD hS (lv_sub hl [0, 1, 2, 3, 4, 5, 6] rfl)

set_option maxHeartbeats 4000000 in
set_option maxRecDepth 100000 in
/-- Division.giveBack -/
theorem c_giveBack (l : Launch) (D : va_G) (cI cJ cE cF cR : ClassId) (dv dd ds L at_ M : Nat) (u v : Nat → Int) (hu : bg_dg u M) (hvd : bg_dg v L) (hM : at_ + L < M) (hM2 : M ≤ 97) : Cv l D (zty cI cJ cE cF cR) yX1_giveBack wsX1_giveBack (zRm 0 0) 0 0 [.ref (dv), .int (iZ (((at_ : Nat) : Int))), .int (iZ (((L : Nat) : Int)))] [(dv, .inr (1, [.ref (dd), .ref (ds)])), (dd, aI cI (97) (u)), (ds, aI cI (97) (v))] (fun w1 => ∃ (g : Nat → Int) (c : Int), w1 = [(dv, .inr (1, [.ref (dd), .ref (ds)])), (dd, aI cI (97) (g)), (ds, aI cI (97) (v))] ∧ bg_dg g M ∧ (∀ j : Nat, j < at_ ∨ at_ + L < j → g j = u j) ∧ (0 ≤ c ∧ c ≤ 1) ∧ bg_val (fun j => g (at_ + j)) (L + 1) + c * bg_p (L + 1) = bg_val (fun j => u (at_ + j)) (L + 1) + bg_val v L) := by
  unfold Cv
  refine zs (Qc := zQv D _ _) (cc := cX1_giveBack) (maxL := 6) (ret := none) (by decide) rfl (Nat.le_of_ble_eq_true rfl) ?_
  intro zp ze s zm below meth zc ls A args Q hQ hx hb hr hts hown hlk hml hnm hN hA hK hP hD hS hl
  have q_f_RX1_9_Division_dividend_I := hts (.fieldLink RX1 9 "LimbSolver$Division" "dividend" "[I") (by decide +kernel)
  have hin1 : ∀ w ∈ wsX10, w ∈ wsX1_giveBack := by decide +kernel
  have q_constantLong_RX1_62_2147483647 := hts (.constantLong RX1 62 (2147483647)) (by decide +kernel)
  have q_f_RX1_15_Division_divisor_I := hts (.fieldLink RX1 15 "LimbSolver$Division" "divisor" "[I") (by decide +kernel)
  have hl : lv_has ls 6 [(0, .ref (dv)), (1, .int (iZ (((at_ : Nat) : Int)))), (2, .int (iZ (((L : Nat) : Int))))] := hl
  have lp : ∀ (t : Nat) (i : Nat) (c0 : Int) (g : Nat → Int) (H : Heap) (locs : List Loc) (ls : Array Slot), (i + t = L) → (bg_dg g M) → (∀ j : Nat, j < at_ ∨ at_ + i ≤ j → g j = u j) → (0 ≤ c0 ∧ c0 ≤ 1) → (bg_val (fun j => g (at_ + j)) i + c0 * bg_p i = bg_val (fun j => u (at_ + j)) i + bg_val v i) →  va_P D vwCl [(dv, .inr (1, [.ref (dd), .ref (ds)])), (dd, aI cI (97) (g)), (ds, aI cI (97) (v))] H → va_D A [(dv, .inr (1, [.ref (dd), .ref (ds)])), (dd, aI cI (97) (g)), (ds, aI cI (97) (v))] → va_S A s.heap H locs → lv_has ls 6 [(5, .int (iZ (((i : Nat) : Int)))), (3, .long (lZ (c0))), (0, .ref (dv)), (1, .int (iZ (((at_ : Nat) : Int)))), (2, .int (iZ (((L : Nat) : Int))))] → W zp l ze (zRm 0 0) s zm args below meth zc H locs 0 0 Q (F0 zm 5 ls []) := by
    intro t
    induction t with
    | zero =>
      intro i c0 g H locs ls hit hg hge hc hv hP hD hS hl
      refine lv_iload hx hb dX1_giveBack_5 (lv_at hl 0 rfl) ?_
      refine lv_iload_n hx hb dX1_giveBack_7 rfl (lv_at hl 4 rfl) ?_
      refine zr_icmp_ge hx hb 59 ⟨by omega, by omega⟩ ⟨by omega, by omega⟩ dX1_giveBack_8 (by decide) (fun h_8 => ?_) (fun h_8 => ?_)
      · have hik : i = L := by omega
        have hvL : bg_val (fun j => g (at_ + j)) L + c0 * bg_p L = bg_val (fun j => u (at_ + j)) L + bg_val v L := hik ▸ hv
        have bt := hg (at_ + L) (by omega)
        refine lv_aload_n hx hb dX1_giveBack_59 rfl (lv_at hl 2 rfl) ?_
        refine va_get (D := D) (ci := 1) (v := .ref (dd)) (C := RX1) (T := TX1) (N := 2) hx hb hts hin1 hown hK hP 0 rfl rfl 0 (by decide) q_f_RX1_9_Division_dividend_I (fun _ h9 => h9) rfl dX1_giveBack_60 ?_
        refine lv_iload_n hx hb dX1_giveBack_63 rfl (lv_at hl 3 rfl) ?_
        refine lv_iload_n hx hb dX1_giveBack_64 rfl (lv_at hl 4 rfl) ?_
        refine zr_iadd hx hb dX1_giveBack_65 ?_
        refine lv_lload_n hx hb dX1_giveBack_66 rfl (lv_at hl 1 rfl) ?_
        refine lv_aload_n hx hb dX1_giveBack_67 rfl (lv_at hl 2 rfl) ?_
        refine va_get (D := D) (ci := 1) (v := .ref (dd)) (C := RX1) (T := TX1) (N := 2) hx hb hts hin1 hown hK hP 0 rfl rfl 0 (by decide) q_f_RX1_9_Division_dividend_I (fun _ h9 => h9) rfl dX1_giveBack_68 ?_
        refine lv_iload_n hx hb dX1_giveBack_71 rfl (lv_at hl 3 rfl) ?_
        refine lv_iload_n hx hb dX1_giveBack_72 rfl (lv_at hl 4 rfl) ?_
        refine zr_iadd hx hb dX1_giveBack_73 ?_
        refine zr_iald hx hb hK hP 1 0 rfl rfl (at_ + L) (by omega) (by omega) (by omega) dX1_giveBack_74 ?_
        refine zr_i2l hx hb ⟨by omega, by omega⟩ dX1_giveBack_75 ?_
        refine zr_ladd hx hb dX1_giveBack_76 ?_
        refine zr_ldc2 hx hb 2147483647 (by decide) hown q_constantLong_RX1_62_2147483647 dX1_giveBack_77 ?_
        refine zr_land31 hx hb dX1_giveBack_80 ?_
        refine zr_l2i hx hb dX1_giveBack_81 ?_
        refine zr_iast hx hb hK hP hD hS 1 0 rfl rfl (at_ + L) (by omega) (by omega) (by omega) dX1_giveBack_82 (fun H locs hP hD hS => ?_)
        have hP : va_P D vwCl [(dv, .inr (1, [.ref (dd), .ref (ds)])), (dd, aI cI (97) (zu (g) (at_ + L) (((c0) + ((g) (at_ + L))) % 2147483648))), (ds, aI cI (97) (v))] H := hP
        have hD : va_D A [(dv, .inr (1, [.ref (dd), .ref (ds)])), (dd, aI cI (97) (zu (g) (at_ + L) (((c0) + ((g) (at_ + L))) % 2147483648))), (ds, aI cI (97) (v))] := hD
        exact zr_vret hQ hx hb hr hlk dX1_giveBack_83 hK hP hD hS (by omega) (by omega) (⟨_, (c0 + g (at_ + L)) / 2147483648, rfl, bg_zu_dg hg (bg_mod _), (fun j hj => by rw [zu_n g _ (by omega)]; exact hge j (by omega)), ⟨by omega, by omega⟩, gb_end hvL (hge (at_ + L) (by omega))⟩)
      · exfalso; omega
    | succ t ih =>
      intro i c0 g H locs ls hit hg hge hc hv hP hD hS hl
      refine lv_iload hx hb dX1_giveBack_5 (lv_at hl 0 rfl) ?_
      refine lv_iload_n hx hb dX1_giveBack_7 rfl (lv_at hl 4 rfl) ?_
      refine zr_icmp_ge hx hb 59 ⟨by omega, by omega⟩ ⟨by omega, by omega⟩ dX1_giveBack_8 (by decide) (fun h_8 => ?_) (fun h_8 => ?_)
      · exfalso; omega
      · have bu := hg (at_ + i) (by omega)
        have bv := hvd i (by omega)
        refine lv_lload_n hx hb dX1_giveBack_11 rfl (lv_at hl 1 rfl) ?_
        refine lv_aload_n hx hb dX1_giveBack_12 rfl (lv_at hl 2 rfl) ?_
        refine va_get (D := D) (ci := 1) (v := .ref (dd)) (C := RX1) (T := TX1) (N := 2) hx hb hts hin1 hown hK hP 0 rfl rfl 0 (by decide) q_f_RX1_9_Division_dividend_I (fun _ h9 => h9) rfl dX1_giveBack_13 ?_
        refine lv_iload_n hx hb dX1_giveBack_16 rfl (lv_at hl 3 rfl) ?_
        refine lv_iload hx hb dX1_giveBack_17 (lv_at hl 0 rfl) ?_
        refine zr_iadd hx hb dX1_giveBack_19 ?_
        refine zr_iald hx hb hK hP 1 0 rfl rfl (at_ + i) (by omega) (by omega) (by omega) dX1_giveBack_20 ?_
        refine zr_i2l hx hb ⟨by omega, by omega⟩ dX1_giveBack_21 ?_
        refine lv_aload_n hx hb dX1_giveBack_22 rfl (lv_at hl 2 rfl) ?_
        refine va_get (D := D) (ci := 1) (v := .ref (ds)) (C := RX1) (T := TX1) (N := 2) hx hb hts hin1 hown hK hP 0 rfl rfl 1 (by decide) q_f_RX1_15_Division_divisor_I (fun _ h9 => h9) rfl dX1_giveBack_23 ?_
        refine lv_iload hx hb dX1_giveBack_26 (lv_at hl 0 rfl) ?_
        refine zr_iald hx hb hK hP 2 0 rfl rfl (i) (by omega) (by omega) (by omega) dX1_giveBack_28 ?_
        refine zr_i2l hx hb ⟨by omega, by omega⟩ dX1_giveBack_29 ?_
        refine zr_ladd hx hb dX1_giveBack_30 ?_
        refine zr_ladd hx hb dX1_giveBack_31 ?_
        refine lv_lstore_n (lv' := [(3, .long (lZ ((c0) + (((g) (at_ + i)) + ((v) (i)))))), (5, .int (iZ (((i : Nat) : Int)))), (0, .ref (dv)), (1, .int (iZ (((at_ : Nat) : Int)))), (2, .int (iZ (((L : Nat) : Int))))]) hx hb dX1_giveBack_32 rfl hl (by decide) rfl (fun ls hl => ?_)
        refine lv_aload_n hx hb dX1_giveBack_33 rfl (lv_at hl 2 rfl) ?_
        refine va_get (D := D) (ci := 1) (v := .ref (dd)) (C := RX1) (T := TX1) (N := 2) hx hb hts hin1 hown hK hP 0 rfl rfl 0 (by decide) q_f_RX1_9_Division_dividend_I (fun _ h9 => h9) rfl dX1_giveBack_34 ?_
        refine lv_iload_n hx hb dX1_giveBack_37 rfl (lv_at hl 3 rfl) ?_
        refine lv_iload hx hb dX1_giveBack_38 (lv_at hl 1 rfl) ?_
        refine zr_iadd hx hb dX1_giveBack_40 ?_
        refine lv_lload_n hx hb dX1_giveBack_41 rfl (lv_at hl 0 rfl) ?_
        refine zr_ldc2 hx hb 2147483647 (by decide) hown q_constantLong_RX1_62_2147483647 dX1_giveBack_42 ?_
        refine zr_land31 hx hb dX1_giveBack_45 ?_
        refine zr_l2i hx hb dX1_giveBack_46 ?_
        refine zr_iast hx hb hK hP hD hS 1 0 rfl rfl (at_ + i) (by omega) (by omega) (by omega) dX1_giveBack_47 (fun H locs hP hD hS => ?_)
        have hP : va_P D vwCl [(dv, .inr (1, [.ref (dd), .ref (ds)])), (dd, aI cI (97) (zu (g) (at_ + i) (((c0) + (((g) (at_ + i)) + ((v) (i)))) % 2147483648))), (ds, aI cI (97) (v))] H := hP
        have hD : va_D A [(dv, .inr (1, [.ref (dd), .ref (ds)])), (dd, aI cI (97) (zu (g) (at_ + i) (((c0) + (((g) (at_ + i)) + ((v) (i)))) % 2147483648))), (ds, aI cI (97) (v))] := hD
        refine lv_lload_n hx hb dX1_giveBack_48 rfl (lv_at hl 0 rfl) ?_
        refine lv_bipush (v := iZ 31) hx hb dX1_giveBack_49 (by decide) ?_
        refine zr_lshr31 hx hb ⟨by omega, by omega⟩ dX1_giveBack_51 ?_
        refine lv_lstore_n (lv' := [(3, .long (lZ (((c0) + (((g) (at_ + i)) + ((v) (i)))) / 2147483648))), (5, .int (iZ (((i : Nat) : Int)))), (0, .ref (dv)), (1, .int (iZ (((at_ : Nat) : Int)))), (2, .int (iZ (((L : Nat) : Int))))]) hx hb dX1_giveBack_52 rfl hl (by decide) rfl (fun ls hl => ?_)
        refine lv_iinc (v := iZ (((i + 1 : Nat) : Int))) (lv' := [(5, .int (iZ (((i + 1 : Nat) : Int)))), (3, .long (lZ (((c0) + (((g) (at_ + i)) + ((v) (i)))) / 2147483648))), (0, .ref (dv)), (1, .int (iZ (((at_ : Nat) : Int)))), (2, .int (iZ (((L : Nat) : Int))))]) hx hb dX1_giveBack_53 hl (k := 1) rfl (by rw [show ((i + 1 : Nat) : Int) = ((i : Nat) : Int) + 1 by omega]; exact iZ_add _ _) (by decide) rfl (fun ls hl => ?_)
        refine lv_goto (tgt := 5) hx hb dX1_giveBack_56 (by decide) ?_
        exact ih (i + 1) _ _ H locs ls (by omega) (bg_zu_dg hg (bg_mod _)) (fun j hj => by rw [zu_n g _ (by omega)]; exact hge j (by omega)) ⟨by omega, by omega⟩ (gb_step hv (hge (at_ + i) (by omega))) hP hD hS (lv_sub hl [0, 1, 2, 3, 4] rfl)
  refine lv_lconst (v := lZ 0) hx hb dX1_giveBack_0 rfl ?_
  refine lv_lstore_n (lv' := [(3, .long (lZ (0))), (0, .ref (dv)), (1, .int (iZ (((at_ : Nat) : Int)))), (2, .int (iZ (((L : Nat) : Int))))]) hx hb dX1_giveBack_1 rfl hl (by decide) rfl (fun ls hl => ?_)
  refine lv_iconst (v := iZ 0) hx hb dX1_giveBack_2 rfl ?_
  refine lv_istore (lv' := [(5, .int (iZ (0))), (3, .long (lZ (0))), (0, .ref (dv)), (1, .int (iZ (((at_ : Nat) : Int)))), (2, .int (iZ (((L : Nat) : Int))))]) hx hb dX1_giveBack_3 hl (by decide) rfl (fun ls hl => ?_)
  exact lp L 0 0 u s.heap [] ls (by omega) hu (fun j _ => rfl) ⟨by omega, by omega⟩ (by simp [bg_v0]) hP hD hS (lv_sub hl [0, 1, 2, 3, 4] rfl)
