/-- the divisor, shifted: its top digit is set, no carry above -/
theorem kd_norm {e v : Nat → Int} {m r s : Nat} {b : Int} (h : bg_ok e (m + 1) r b) (hs : s ≤ 30) (h1 : 1073741824 ≤ e m * 2 ^ s) (h2 : e m * 2 ^ s < 2147483648) (hv : bg_dg v (m + 2)) (hval : bg_val v (m + 2) = bg_val e (m + 1) * bg_t s) : bg_val v (m + 1) = b * bg_t s ∧ 1073741824 ≤ v m := by
  have ht := bg_t_pos s
  have hp := bg_p_pos m
  have hs1 : (2 : Int) ^ s = bg_t s := rfl
  rw [hs1] at h1 h2
  have hb := h.2.2.2
  have he := bg_dg_le h.2.1 (Nat.le_succ m)
  have a1 := bg_val_nn he
  have a2 := bg_val_lt he
  have hB : (2147483648 : Int) = bg_t (31 - s) * bg_t s := by rw [← bg_t_add, show 31 - s + s = 31 by omega]; decide
  have c1 : e m + 1 ≤ bg_t (31 - s) := by
    rcases (show e m + 1 ≤ bg_t (31 - s) ∨ bg_t (31 - s) ≤ e m by omega) with w | w
    · exact w
    · have q3 : bg_t (31 - s) * bg_t s ≤ e m * bg_t s := Int.mul_le_mul_of_nonneg_right w (Int.le_of_lt ht)
      omega
  have c2 : (e m + 1) * bg_t s ≤ 2147483648 := by
    have : (e m + 1) * bg_t s ≤ bg_t (31 - s) * bg_t s := Int.mul_le_mul_of_nonneg_right c1 (Int.le_of_lt ht)
    omega
  have hb2 : b = bg_val e m + e m * bg_p m := by rw [← hb, bg_vs]
  have d1 : b * bg_t s < 2147483648 * bg_p m := by
    have q1 : b * bg_t s < ((e m + 1) * bg_p m) * bg_t s := Int.mul_lt_mul_of_pos_right (by rw [hb2, Int.add_mul]; omega) ht
    have q2 : ((e m + 1) * bg_p m) * bg_t s = ((e m + 1) * bg_t s) * bg_p m := by rw [Int.mul_assoc, Int.mul_comm (bg_p m), ← Int.mul_assoc]
    have q3 : ((e m + 1) * bg_t s) * bg_p m ≤ 2147483648 * bg_p m := Int.mul_le_mul_of_nonneg_right c2 (Int.le_of_lt hp)
    omega
  have d2 : 1073741824 * bg_p m ≤ b * bg_t s := by
    have q1 : (e m * bg_p m) * bg_t s ≤ b * bg_t s := Int.mul_le_mul_of_nonneg_right (by omega) (Int.le_of_lt ht)
    have q2 : (e m * bg_p m) * bg_t s = (e m * bg_t s) * bg_p m := by rw [Int.mul_assoc, Int.mul_comm (bg_p m), ← Int.mul_assoc]
    have q3 : 1073741824 * bg_p m ≤ (e m * bg_t s) * bg_p m := Int.mul_le_mul_of_nonneg_right h1 (Int.le_of_lt hp)
    omega
  rw [hb] at hval
  rw [bg_vs, bg_ps] at hval
  have f0 := hv (m + 1) (by omega)
  have f1 := bg_val_nn (bg_dg_le hv (show m + 1 ≤ m + 2 by omega))
  have f2 : v (m + 1) = 0 := by
    rcases (show v (m + 1) = 0 ∨ 1 ≤ v (m + 1) by omega) with w | w
    · exact w
    · have : 1 * (2147483648 * bg_p m) ≤ v (m + 1) * (2147483648 * bg_p m) := Int.mul_le_mul_of_nonneg_right w (by omega)
      omega
  rw [f2, Int.zero_mul, Int.add_zero] at hval
  refine ⟨hval, ?_⟩
  rw [bg_vs] at hval
  have f3 := bg_val_lt (bg_dg_le hv (show m ≤ m + 2 by omega))
  rcases (show 1073741824 ≤ v m ∨ v m + 1 ≤ 1073741824 by omega) with w | w
  · exact w
  · have : (v m + 1) * bg_p m ≤ 1073741824 * bg_p m := Int.mul_le_mul_of_nonneg_right w (Int.le_of_lt hp)
    rw [Int.add_mul] at this
    omega
/-- the highest digits of the shifted dividend are below the divisor at first -/
theorem kd_start {d u v : Nat → Int} {n m r s : Nat} {a : Int} (h : bg_ok d n r a) (hs : s ≤ 30) (hmn : m + 1 ≤ n) (hu : bg_dg u (n + 1)) (hval : bg_val u (n + 1) = bg_val d n * bg_t s) (hv : bg_dg v (m + 1)) (htop : 1073741824 ≤ v m) : bg_val (fun j => u (n + 1 - (m + 1) + j)) (m + 1) < bg_val v (m + 1) := by
  have ht := bg_t_pos s
  have h30 : bg_t s ≤ 1073741824 := by have := bg_t_le hs; have e : bg_t 30 = 1073741824 := (by decide); omega
  have e0 : n + 1 = (n + 1 - (m + 1)) + (m + 1) := by omega
  have e1 := bg_val_split u (n + 1 - (m + 1)) (m + 1)
  rw [← e0] at e1
  have a1 := bg_val_nn (bg_dg_le hu (show n + 1 - (m + 1) ≤ n + 1 by omega))
  have hd := bg_ok_lt h
  rw [hval, h.2.2.2] at e1
  have p1 := bg_p_pos (n + 1 - (m + 1))
  have e2 : bg_p n = bg_p (n + 1 - (m + 1)) * bg_p m := by rw [← bg_p_add]; congr 1; omega
  have b1 : a * bg_t s < bg_p n * bg_t s := Int.mul_lt_mul_of_pos_right hd ht
  have b2 : bg_p n * bg_t s ≤ bg_p n * 1073741824 := Int.mul_le_mul_of_nonneg_left h30 (Int.le_of_lt (bg_p_pos n))
  have b3 : bg_val (fun j => u (n + 1 - (m + 1) + j)) (m + 1) * bg_p (n + 1 - (m + 1)) < (1073741824 * bg_p m) * bg_p (n + 1 - (m + 1)) := by
    rw [Int.mul_comm (bg_val _ _), Int.mul_assoc, Int.mul_comm (bg_p m), ← e2, Int.mul_comm 1073741824]
    omega
  have b4 := kd_lt_of_mul p1 b3
  have c1 := bg_val_nn (bg_dg_le hv (Nat.le_succ m))
  have c2 : 1073741824 * bg_p m ≤ v m * bg_p m := Int.mul_le_mul_of_nonneg_right htop (Int.le_of_lt (bg_p_pos m))
  rw [bg_vs v]
  omega
/-- a window of one more digit below is below the divisor times the base -/
theorem kd_win {u : Nat → Int} {t k M : Nat} {V : Int} (hu : bg_dg u M) (hM : t + k < M) (hR : bg_val (fun j => u (t + 1 + j)) k < V) : bg_val (fun j => u (t + j)) (k + 1) < V * 2147483648 := by
  have e := bg_val_split (fun j => u (t + j)) 1 k
  rw [Nat.add_comm 1 k] at e
  have e1 : bg_val (fun j => u (t + j)) 1 = u t := by rw [bg_vs, bg_v0, bg_p0]; show 0 + u (t + 0) * 1 = u t; rw [Nat.add_zero]; omega
  have e2 : (fun i => (fun j => u (t + j)) (1 + i)) = fun j => u (t + 1 + j) := by funext j; show u (t + (1 + j)) = _; rw [Nat.add_assoc]
  rw [e1, e2, bg_p_small.1] at e
  have := hu t (by omega)
  omega
theorem kd_div_step {u u' gq : Nat → Int} {t k T M : Nat} {A2 VV zq : Int} (htT : t + 1 ≤ T) (hM : t + k < M) (hu' : bg_dg u' M) (hVk : VV < bg_p k) (hsame : ∀ j : Nat, j < t ∨ t + k < j → u' j = u j) (hw0 : 0 ≤ bg_val (fun j => u (t + j)) (k + 1) - zq * VV ∧ bg_val (fun j => u (t + j)) (k + 1) - zq * VV < VV) (hw : bg_val (fun j => u' (t + j)) (k + 1) = bg_val (fun j => u (t + j)) (k + 1) - zq * VV)
    (hA : A2 = bg_val (fun j => gq (t + 1 + j)) (T - (t + 1)) * bg_p (t + 1) * VV + bg_val u (t + 1 + k)) : A2 = bg_val (fun j => zu gq t zq (t + j)) (T - t) * bg_p t * VV + bg_val u' (t + k) ∧ bg_val (fun j => u' (t + j)) k < VV := by
  have hp := bg_p_pos k
  have hwd := bg_win_dg hu' (show t + (k + 1) ≤ M by omega)
  have f0 : bg_val (fun j => u' (t + j)) (k + 1) = bg_val (fun j => u' (t + j)) k + u' (t + k) * bg_p k := bg_vs _ k
  have f1 := bg_val_nn (bg_dg_le hwd (Nat.le_succ k))
  have f2 := hu' (t + k) hM
  have f3 : u' (t + k) = 0 := by
    rcases (show u' (t + k) = 0 ∨ 1 ≤ u' (t + k) by omega) with w | w
    · exact w
    · have : 1 * bg_p k ≤ u' (t + k) * bg_p k := Int.mul_le_mul_of_nonneg_right w (Int.le_of_lt hp)
      omega
  rw [f3, Int.zero_mul, Int.add_zero] at f0
  refine ⟨?_, by omega⟩
  have g1 : bg_val (fun j => zu gq t zq (t + j)) (T - t) = zq + 2147483648 * bg_val (fun j => gq (t + 1 + j)) (T - (t + 1)) := by
    have e := bg_val_split (fun j => zu gq t zq (t + j)) 1 (T - (t + 1))
    rw [show 1 + (T - (t + 1)) = T - t by omega] at e
    rw [e, bg_vs, bg_v0, bg_p0, bg_p_small.1]
    have e3 : zu gq t zq (t + 0) = zq := zu_s gq t zq
    have e4 : bg_val (fun i => zu gq t zq (t + (1 + i))) (T - (t + 1)) = bg_val (fun j => gq (t + 1 + j)) (T - (t + 1)) := bg_val_congr (fun j _ => by show zu gq t zq (t + (1 + j)) = gq (t + 1 + j); rw [zu_n gq zq (by omega), Nat.add_assoc])
    rw [e4]
    show 0 + zu gq t zq (t + 0) * 1 + _ = _
    rw [e3]; omega
  have g2 : bg_val u (t + 1 + k) = bg_val u t + bg_p t * bg_val (fun j => u (t + j)) (k + 1) := by rw [show t + 1 + k = t + (k + 1) by omega]; exact bg_val_split u t (k + 1)
  have g3 : bg_val u' (t + k) = bg_val u t + bg_p t * bg_val (fun j => u' (t + j)) k := by
    rw [bg_val_split u' t k]
    congr 1
    exact bg_val_congr (fun j hj => hsame j (Or.inl hj))
  rw [hA, g1, g2, g3, ← f0, hw, bg_ps]
  generalize bg_val (fun j => gq (t + 1 + j)) (T - (t + 1)) = Q
  generalize bg_val (fun j => u (t + j)) (k + 1) = U
  rw [Int.mul_sub, Int.add_mul, Int.add_mul]
  have i1 : Q * (2147483648 * bg_p t) * VV = 2147483648 * Q * bg_p t * VV := by rw [← Int.mul_assoc, Int.mul_comm Q]
  have i2 : zq * bg_p t * VV = bg_p t * (zq * VV) := by rw [Int.mul_comm zq, Int.mul_assoc]
  omega
theorem kd_fin {A b Q W t : Int} (ht : 0 < t) (hb : 0 < b) (hA : A * t = Q * (b * t) + W) (hW : 0 ≤ W ∧ W < b * t) : Q = A / b ∧ W / t = A % b := by
  have e : W = (A - Q * b) * t := by rw [Int.sub_mul, Int.mul_assoc]; omega
  have e2 : W / t = A - Q * b := by rw [e]; exact Int.mul_ediv_cancel _ (Int.ne_of_gt ht)
  have h0 : 0 ≤ A - Q * b := by rw [← e2]; exact Int.ediv_nonneg hW.1 (Int.le_of_lt ht)
  have h1 : A - Q * b < b := kd_lt_of_mul ht (by rw [← e]; exact hW.2)
  have e3 : A = (A - Q * b) + b * Q := by rw [Int.mul_comm b]; omega
  have e4 : A / b = Q := by rw [e3, Int.add_mul_ediv_left _ _ (Int.ne_of_gt hb), Int.ediv_eq_zero_of_lt h0 h1]; omega
  have e5 : A % b = A - Q * b := by rw [Int.emod_def, e4, Int.mul_comm b]
  exact ⟨e4.symm, by rw [e2, e5]⟩
theorem kd_lowW {A t : Int} {b : Int} (h : b = A) (ht : t = 1) : b = A * t := by rw [h, ht]; omega
set_option maxHeartbeats 4000000 in
set_option maxRecDepth 100000 in
/-- Division.divide -/
theorem c_divide (l : Launch) (D : va_G) (cI cJ cE cF cR : ClassId) (dv dd ds a aw b bw q qw r rw ra rb rq rr n k : Nat) (cq cr : Int) (u0 v0 d e gq0 gr0 : Nat → Int) (v1 v2 : Int) (h1 : bg_ok d n ra v1) (h2 : bg_ok e k rb v2) (hb0 : 0 < v2) (hn : n < 97) (hkr : k ≤ rr) (hdq : n + 1 ≤ rq + k) (hra : ra < 2147483648) (hrb : rb < 2147483648) (hrq : rq < 2147483648) (hrr : rr < 2147483648) : Cv l D (zty cI cJ cE cF cR) yX1_divide wsX1_divide (zRm 2 81) 0 0 [.ref (dv), .ref (a), .ref (b), .ref (q), .ref (r)] [(dv, .inr (1, [.ref (dd), .ref (ds)])), (dd, aI cI (97) (u0)), (ds, aI cI (97) (v0)), (a, .inr (9, [.ref (aw), .int (iZ (((n : Nat) : Int)))])), (aw, aI cI (ra) (d)), (b, .inr (9, [.ref (bw), .int (iZ (((k : Nat) : Int)))])), (bw, aI cI (rb) (e)), (q, .inr (9, [.ref (qw), .int (iZ (cq))])), (qw, aI cI (rq) (gq0)), (r, .inr (9, [.ref (rw), .int (iZ (cr))])), (rw, aI cI (rr) (gr0))] (fun w1 => ∃ (u v gq gr : Nat → Int) (nq nr : Nat), w1 = [(dv, .inr (1, [.ref (dd), .ref (ds)])), (dd, aI cI (97) (u)), (ds, aI cI (97) (v)), (a, .inr (9, [.ref (aw), .int (iZ (((n : Nat) : Int)))])), (aw, aI cI (ra) (d)), (b, .inr (9, [.ref (bw), .int (iZ (((k : Nat) : Int)))])), (bw, aI cI (rb) (e)), (q, .inr (9, [.ref (qw), .int (iZ (((nq : Nat) : Int)))])), (qw, aI cI (rq) (gq)), (r, .inr (9, [.ref (rw), .int (iZ (((nr : Nat) : Int)))])), (rw, aI cI (rr) (gr))] ∧ bg_ok gq nq rq (v1 / v2) ∧ bg_ok gr nr rr (v1 % v2)) := by
  unfold Cv
  refine zs (Qc := zQv D _ _) (cc := cX1_divide) (maxL := 10) (ret := none) (by decide) rfl (Nat.le_of_ble_eq_true rfl) ?_
  intro zp ze s zm below meth zc ls A args Q hQ hx hb hr hts hown hlk hml hnm hN hA hK hP hD hS hl
  have hin9 : ∀ w ∈ wsX90, w ∈ wsX1_divide := by decide +kernel
  have q_f_RX1_9_Division_dividend_I := hts (.fieldLink RX1 9 "LimbSolver$Division" "dividend" "[I") (by decide +kernel)
  have hin1 : ∀ w ∈ wsX10, w ∈ wsX1_divide := by decide +kernel
  have q_initialized_RX10 := hts (.initialized RX10) (by decide +kernel)
  have q_static_yX10_spareBits := hts (.static yX10_spareBits) (by decide +kernel)
  have q_f_RX1_15_Division_divisor_I := hts (.fieldLink RX1 15 "LimbSolver$Division" "divisor" "[I") (by decide +kernel)
  have hl : lv_has ls 10 [(0, .ref (dv)), (1, .ref (a)), (2, .ref (b)), (3, .ref (q)), (4, .ref (r))] := hl
  have hna := h1.1
  have hkb := h2.1
  have hk0 : 0 < k := by
    rcases Nat.eq_zero_or_pos k with q9 | q9
    · have := (bg_ok_zero h2).mpr q9; omega
    · exact q9
  have mn : ∀ (sh : Nat) (u v : Nat → Int) (H : Heap) (locs : List Loc) (ls : Array Slot), (sh ≤ 30) → (k ≤ n) → (bg_dg u (n + 1)) → (bg_val u (n + 1) = bg_val d n * bg_t sh) → (bg_dg v k) → (bg_val v k = v2 * bg_t sh) → (1073741824 ≤ v (k - 1)) → (bg_val (fun j => u (n + 1 - k + j)) k < bg_val v k) →  va_P D vwCl [(dv, .inr (1, [.ref (dd), .ref (ds)])), (dd, aI cI (97) (u)), (ds, aI cI (97) (v)), (a, .inr (9, [.ref (aw), .int (iZ (((n : Nat) : Int)))])), (aw, aI cI (ra) (d)), (b, .inr (9, [.ref (bw), .int (iZ (((k : Nat) : Int)))])), (bw, aI cI (rb) (e)), (q, .inr (9, [.ref (qw), .int (iZ (cq))])), (qw, aI cI (rq) (gq0)), (r, .inr (9, [.ref (rw), .int (iZ (cr))])), (rw, aI cI (rr) (gr0))] H → va_D A [(dv, .inr (1, [.ref (dd), .ref (ds)])), (dd, aI cI (97) (u)), (ds, aI cI (97) (v)), (a, .inr (9, [.ref (aw), .int (iZ (((n : Nat) : Int)))])), (aw, aI cI (ra) (d)), (b, .inr (9, [.ref (bw), .int (iZ (((k : Nat) : Int)))])), (bw, aI cI (rb) (e)), (q, .inr (9, [.ref (qw), .int (iZ (cq))])), (qw, aI cI (rq) (gq0)), (r, .inr (9, [.ref (rw), .int (iZ (cr))])), (rw, aI cI (rr) (gr0))] → va_S A s.heap H locs → lv_has ls 10 [(7, .int (iZ (((sh : Nat) : Int)))), (6, .int (iZ (((((n : Nat) : Int)) - (((k : Nat) : Int))) + (1)))), (5, .int (iZ (((k : Nat) : Int)))), (0, .ref (dv)), (1, .ref (a)), (2, .ref (b)), (3, .ref (q)), (4, .ref (r))] → W zp l ze (zRm 2 81) s zm args below meth zc H locs 0 0 Q (F0 zm 106 ls []) := by
    intro sh u v H locs ls hsh hkn hu huv hvd hVV htop hR0 hP hD hS hl
    have hVk : bg_val v k < bg_p k := bg_val_lt hvd
    have lp : ∀ (t : Nat) (u gq : Nat → Int) (H : Heap) (locs : List Loc) (ls : Array Slot), (t ≤ n + 1 - k) → (bg_dg u (n + 1)) → (∀ j : Nat, t ≤ j → j < n + 1 - k → 0 ≤ gq j ∧ gq j < 2147483648) → (v1 * bg_t sh = bg_val (fun j => gq (t + j)) (n + 1 - k - t) * bg_p t * bg_val v k + bg_val u (t + k)) → (bg_val (fun j => u (t + j)) k < bg_val v k) →  va_P D vwCl [(dv, .inr (1, [.ref (dd), .ref (ds)])), (dd, aI cI (97) (u)), (ds, aI cI (97) (v)), (a, .inr (9, [.ref (aw), .int (iZ (((n : Nat) : Int)))])), (aw, aI cI (ra) (d)), (b, .inr (9, [.ref (bw), .int (iZ (((k : Nat) : Int)))])), (bw, aI cI (rb) (e)), (q, .inr (9, [.ref (qw), .int (iZ (cq))])), (qw, aI cI (rq) (gq)), (r, .inr (9, [.ref (rw), .int (iZ (cr))])), (rw, aI cI (rr) (gr0))] H → va_D A [(dv, .inr (1, [.ref (dd), .ref (ds)])), (dd, aI cI (97) (u)), (ds, aI cI (97) (v)), (a, .inr (9, [.ref (aw), .int (iZ (((n : Nat) : Int)))])), (aw, aI cI (ra) (d)), (b, .inr (9, [.ref (bw), .int (iZ (((k : Nat) : Int)))])), (bw, aI cI (rb) (e)), (q, .inr (9, [.ref (qw), .int (iZ (cq))])), (qw, aI cI (rq) (gq)), (r, .inr (9, [.ref (rw), .int (iZ (cr))])), (rw, aI cI (rr) (gr0))] → va_S A s.heap H locs → lv_has ls 10 [(8, .int (iZ (((t : Nat) : Int) - 1))), (7, .int (iZ (((sh : Nat) : Int)))), (6, .int (iZ (((((n : Nat) : Int)) - (((k : Nat) : Int))) + (1)))), (5, .int (iZ (((k : Nat) : Int)))), (0, .ref (dv)), (1, .ref (a)), (2, .ref (b)), (3, .ref (q)), (4, .ref (r))] → W zp l ze (zRm 2 81) s zm args below meth zc H locs 0 0 Q (F0 zm 112 ls []) := by
      intro t
      induction t with
      | zero =>
        intro u gq H locs ls htT hu hgq hAq hR hP hD hS hl
        refine lv_iload hx hb dX1_divide_112 (lv_at hl 0 rfl) ?_
        refine zr_if_lt hx hb 166 ⟨by omega, by omega⟩ dX1_divide_114 (by decide) (fun h_114 => ?_) (fun h_114 => ?_)
        · refine lv_aload_n hx hb dX1_divide_166 rfl (lv_at hl 7 rfl) ?_
          refine lv_iload hx hb dX1_divide_167 (lv_at hl 2 rfl) ?_
          refine zr_eqi (((n + 1 - k : Nat) : Int)) (by omega) ?_
          refine zc_Vv (As := [.int (iZ (((n + 1 - k : Nat) : Int)))]) (rest := []) (wr := [(dv, .inr (1, [.ref (dd), .ref (ds)])), (dd, aI cI (97) (u)), (ds, aI cI (97) (v)), (a, .inr (9, [.ref (aw), .int (iZ (((n : Nat) : Int)))])), (aw, aI cI (ra) (d)), (b, .inr (9, [.ref (bw), .int (iZ (((k : Nat) : Int)))])), (bw, aI cI (rb) (e)), (r, .inr (9, [.ref (rw), .int (iZ (cr))])), (rw, aI cI (rr) (gr0))]) ⟨hx, hb, hml, hown, hts⟩ (c_trim l D cI cJ cE cF cR q qw rq (n + 1 - k) (cq) gq (by omega) hrq (fun j hj => hgq j (Nat.zero_le j) hj)) (cwV 1 hts gX1_divide_X9_trim rfl rfl rfl (by decide +kernel) ⟨Nat.le_of_ble_eq_true rfl, Nat.le_of_ble_eq_true rfl⟩) hN hK hP hD hS hA [7, 8] [0, 1, 2, 3, 4, 5, 6, 9, 10] rfl rfl (by decide) (by decide) (by decide) (q0 := 0) (ci := 9) rfl rfl rfl rfl hl.1 (Nat.le_of_ble_eq_true rfl) dX1_divide_169 ⟨by decide, by decide⟩ (fun w1 H locs hp hP hD hS => ?_)
          obtain rfl : w1 = _ := hp
          have hP := hP.sub (ws' := [(dv, .inr (1, [.ref (dd), .ref (ds)])), (dd, aI cI (97) (u)), (ds, aI cI (97) (v)), (a, .inr (9, [.ref (aw), .int (iZ (((n : Nat) : Int)))])), (aw, aI cI (ra) (d)), (b, .inr (9, [.ref (bw), .int (iZ (((k : Nat) : Int)))])), (bw, aI cI (rb) (e)), (q, .inr (9, [.ref (qw), .int (iZ (((bg_trim gq (n + 1 - k) : Nat) : Int)))])), (qw, aI cI (rq) (gq)), (r, .inr (9, [.ref (rw), .int (iZ (cr))])), (rw, aI cI (rr) (gr0))]) [0, 1, 2, 3, 4, 5, 6, 9, 10, 7, 8] rfl
          have hD := hD.sub (ws' := [(dv, .inr (1, [.ref (dd), .ref (ds)])), (dd, aI cI (97) (u)), (ds, aI cI (97) (v)), (a, .inr (9, [.ref (aw), .int (iZ (((n : Nat) : Int)))])), (aw, aI cI (ra) (d)), (b, .inr (9, [.ref (bw), .int (iZ (((k : Nat) : Int)))])), (bw, aI cI (rb) (e)), (q, .inr (9, [.ref (qw), .int (iZ (((bg_trim gq (n + 1 - k) : Nat) : Int)))])), (qw, aI cI (rq) (gq)), (r, .inr (9, [.ref (rw), .int (iZ (cr))])), (rw, aI cI (rr) (gr0))]) [0, 1, 2, 3, 4, 5, 6, 9, 10, 7, 8] (by decide) rfl
          refine lv_aload_n hx hb dX1_divide_172 rfl (lv_at hl 4 rfl) ?_
          refine lv_iload hx hb dX1_divide_173 (lv_at hl 3 rfl) ?_
          refine lv_iload hx hb dX1_divide_175 (lv_at hl 1 rfl) ?_
          refine lv_aload hx hb dX1_divide_177 (lv_at hl 8 rfl) ?_
          refine va_getN (D := D) (ci := 9) (v := .ref (rw)) (C := RX9) (T := TX9) (N := 2) hx hb hts hin9 hown hK hP 9 rfl rfl 0 (by decide) (hN.F 4 rfl) (fun _ h9 => h9) rfl dX1_divide_179 ?_
          refine zc_Vv (As := [.int (iZ (((k : Nat) : Int))), .int (iZ (((sh : Nat) : Int))), .ref (rw)]) (rest := []) (wr := [(ds, aI cI (97) (v)), (a, .inr (9, [.ref (aw), .int (iZ (((n : Nat) : Int)))])), (aw, aI cI (ra) (d)), (b, .inr (9, [.ref (bw), .int (iZ (((k : Nat) : Int)))])), (bw, aI cI (rb) (e)), (q, .inr (9, [.ref (qw), .int (iZ (((bg_trim gq (n + 1 - k) : Nat) : Int)))])), (qw, aI cI (rq) (gq)), (r, .inr (9, [.ref (rw), .int (iZ (cr))]))]) ⟨hx, hb, hml, hown, hts⟩ (c_shiftDown l D cI cJ cE cF cR dv dd ds rw rr k sh u gr0 (bg_dg_le hu (by omega)) hsh hk0 (by omega) hkr hrr) (cwV 3 hts gX1_divide_X1_shiftDown rfl rfl rfl (by decide +kernel) ⟨Nat.le_of_ble_eq_true rfl, Nat.le_of_ble_eq_true rfl⟩) hN hK hP hD hS hA [0, 1, 10] [2, 3, 4, 5, 6, 7, 8, 9] rfl rfl (by decide) (by decide) (by decide) (q0 := 0) (ci := 1) rfl rfl rfl rfl hl.1 (Nat.le_of_ble_eq_true rfl) dX1_divide_182 ⟨by decide, by decide⟩ (fun w1 H locs hp hP hD hS => ?_)
          obtain ⟨gr, hw1, hgr1, hgr2⟩ := hp
          subst hw1
          have hP := hP.sub (ws' := [(dv, .inr (1, [.ref (dd), .ref (ds)])), (dd, aI cI (97) (u)), (ds, aI cI (97) (v)), (a, .inr (9, [.ref (aw), .int (iZ (((n : Nat) : Int)))])), (aw, aI cI (ra) (d)), (b, .inr (9, [.ref (bw), .int (iZ (((k : Nat) : Int)))])), (bw, aI cI (rb) (e)), (q, .inr (9, [.ref (qw), .int (iZ (((bg_trim gq (n + 1 - k) : Nat) : Int)))])), (qw, aI cI (rq) (gq)), (r, .inr (9, [.ref (rw), .int (iZ (cr))])), (rw, aI cI (rr) (gr))]) [8, 9, 0, 1, 2, 3, 4, 5, 6, 7, 10] rfl
          have hD := hD.sub (ws' := [(dv, .inr (1, [.ref (dd), .ref (ds)])), (dd, aI cI (97) (u)), (ds, aI cI (97) (v)), (a, .inr (9, [.ref (aw), .int (iZ (((n : Nat) : Int)))])), (aw, aI cI (ra) (d)), (b, .inr (9, [.ref (bw), .int (iZ (((k : Nat) : Int)))])), (bw, aI cI (rb) (e)), (q, .inr (9, [.ref (qw), .int (iZ (((bg_trim gq (n + 1 - k) : Nat) : Int)))])), (qw, aI cI (rq) (gq)), (r, .inr (9, [.ref (rw), .int (iZ (cr))])), (rw, aI cI (rr) (gr))]) [8, 9, 0, 1, 2, 3, 4, 5, 6, 7, 10] (by decide) rfl
          refine lv_aload hx hb dX1_divide_185 (lv_at hl 8 rfl) ?_
          refine lv_iload hx hb dX1_divide_187 (lv_at hl 3 rfl) ?_
          refine zc_Vv (As := [.int (iZ (((k : Nat) : Int)))]) (rest := []) (wr := [(dv, .inr (1, [.ref (dd), .ref (ds)])), (dd, aI cI (97) (u)), (ds, aI cI (97) (v)), (a, .inr (9, [.ref (aw), .int (iZ (((n : Nat) : Int)))])), (aw, aI cI (ra) (d)), (b, .inr (9, [.ref (bw), .int (iZ (((k : Nat) : Int)))])), (bw, aI cI (rb) (e)), (q, .inr (9, [.ref (qw), .int (iZ (((bg_trim gq (n + 1 - k) : Nat) : Int)))])), (qw, aI cI (rq) (gq))]) ⟨hx, hb, hml, hown, hts⟩ (c_trim l D cI cJ cE cF cR r rw rr k cr gr hkr hrr hgr1) (cwV 1 hts gX1_divide_X9_trim rfl rfl rfl (by decide +kernel) ⟨Nat.le_of_ble_eq_true rfl, Nat.le_of_ble_eq_true rfl⟩) hN hK hP hD hS hA [9, 10] [0, 1, 2, 3, 4, 5, 6, 7, 8] rfl rfl (by decide) (by decide) (by decide) (q0 := 0) (ci := 9) rfl rfl rfl rfl hl.1 (Nat.le_of_ble_eq_true rfl) dX1_divide_189 ⟨by decide, by decide⟩ (fun w1 H locs hp hP hD hS => ?_)
          obtain rfl : w1 = _ := hp
          have hP := hP.sub (ws' := [(dv, .inr (1, [.ref (dd), .ref (ds)])), (dd, aI cI (97) (u)), (ds, aI cI (97) (v)), (a, .inr (9, [.ref (aw), .int (iZ (((n : Nat) : Int)))])), (aw, aI cI (ra) (d)), (b, .inr (9, [.ref (bw), .int (iZ (((k : Nat) : Int)))])), (bw, aI cI (rb) (e)), (q, .inr (9, [.ref (qw), .int (iZ (((bg_trim gq (n + 1 - k) : Nat) : Int)))])), (qw, aI cI (rq) (gq)), (r, .inr (9, [.ref (rw), .int (iZ (((bg_trim gr k : Nat) : Int)))])), (rw, aI cI (rr) (gr))]) [0, 1, 2, 3, 4, 5, 6, 7, 8, 9, 10] rfl
          have hD := hD.sub (ws' := [(dv, .inr (1, [.ref (dd), .ref (ds)])), (dd, aI cI (97) (u)), (ds, aI cI (97) (v)), (a, .inr (9, [.ref (aw), .int (iZ (((n : Nat) : Int)))])), (aw, aI cI (ra) (d)), (b, .inr (9, [.ref (bw), .int (iZ (((k : Nat) : Int)))])), (bw, aI cI (rb) (e)), (q, .inr (9, [.ref (qw), .int (iZ (((bg_trim gq (n + 1 - k) : Nat) : Int)))])), (qw, aI cI (rq) (gq)), (r, .inr (9, [.ref (rw), .int (iZ (((bg_trim gr k : Nat) : Int)))])), (rw, aI cI (rr) (gr))]) [0, 1, 2, 3, 4, 5, 6, 7, 8, 9, 10] (by decide) rfl
          exact zr_vret hQ hx hb hr hlk dX1_divide_192 hK hP hD hS (by omega) (by omega) (by
  have f1 : v1 * bg_t sh = bg_val gq (n + 1 - k) * (v2 * bg_t sh) + bg_val u k := by
    have q1 := hAq
    simp only [Nat.zero_add, Nat.sub_zero, bg_p0, Int.mul_one] at q1
    rw [hVV] at q1
    exact q1
  have f2 : bg_val u k < v2 * bg_t sh := by
    have q1 := hR
    simp only [Nat.zero_add] at q1
    rw [hVV] at q1
    exact q1
  obtain ⟨f3, f4⟩ := kd_fin (bg_t_pos sh) hb0 f1 ⟨bg_val_nn (bg_dg_le hu (by omega)), f2⟩
  refine ⟨u, v, gq, gr, _, _, rfl, ?_, ?_⟩
  · rw [← f3]; exact bg_ok_trim (by omega) (fun j hj => hgq j (Nat.zero_le j) hj)
  · rw [← f4, ← hgr2]; exact bg_ok_trim hkr hgr1)
        · exfalso; omega
      | succ t ih =>
        intro u gq H locs ls htT hu hgq hAq hR hP hD hS hl
        have hUV := kd_win hu (show t + k < n + 1 by omega) hR
        have hU0 := bg_val_nn (bg_win_dg hu (show t + (k + 1) ≤ n + 1 by omega))
        have jn : ∀ (zq : Int) (u' : Nat → Int) (H : Heap) (locs : List Loc) (ls : Array Slot), (0 ≤ zq ∧ zq < 2147483648) → (bg_dg u' (n + 1)) → (∀ j : Nat, j < t ∨ t + k < j → u' j = u j) → (0 ≤ bg_val (fun j => u (t + j)) (k + 1) - zq * bg_val v k ∧ bg_val (fun j => u (t + j)) (k + 1) - zq * bg_val v k < bg_val v k) → (bg_val (fun j => u' (t + j)) (k + 1) = bg_val (fun j => u (t + j)) (k + 1) - zq * bg_val v k) →  va_P D vwCl [(dv, .inr (1, [.ref (dd), .ref (ds)])), (dd, aI cI (97) (u')), (ds, aI cI (97) (v)), (a, .inr (9, [.ref (aw), .int (iZ (((n : Nat) : Int)))])), (aw, aI cI (ra) (d)), (b, .inr (9, [.ref (bw), .int (iZ (((k : Nat) : Int)))])), (bw, aI cI (rb) (e)), (q, .inr (9, [.ref (qw), .int (iZ (cq))])), (qw, aI cI (rq) (gq)), (r, .inr (9, [.ref (rw), .int (iZ (cr))])), (rw, aI cI (rr) (gr0))] H → va_D A [(dv, .inr (1, [.ref (dd), .ref (ds)])), (dd, aI cI (97) (u')), (ds, aI cI (97) (v)), (a, .inr (9, [.ref (aw), .int (iZ (((n : Nat) : Int)))])), (aw, aI cI (ra) (d)), (b, .inr (9, [.ref (bw), .int (iZ (((k : Nat) : Int)))])), (bw, aI cI (rb) (e)), (q, .inr (9, [.ref (qw), .int (iZ (cq))])), (qw, aI cI (rq) (gq)), (r, .inr (9, [.ref (rw), .int (iZ (cr))])), (rw, aI cI (rr) (gr0))] → va_S A s.heap H locs → lv_has ls 10 [(9, .int (iZ (zq))), (8, .int (iZ (((t : Nat) : Int)))), (7, .int (iZ (((sh : Nat) : Int)))), (6, .int (iZ (((((n : Nat) : Int)) - (((k : Nat) : Int))) + (1)))), (5, .int (iZ (((k : Nat) : Int)))), (0, .ref (dv)), (1, .ref (a)), (2, .ref (b)), (3, .ref (q)), (4, .ref (r))] → W zp l ze (zRm 2 81) s zm args below meth zc H locs 0 0 Q (F0 zm 151 ls []) := by
          intro zq u' H locs ls hzq hu' hsame hw0 hw hP hD hS hl
          refine lv_aload_n hx hb dX1_divide_151 rfl (lv_at hl 8 rfl) ?_
          refine va_getN (D := D) (ci := 9) (v := .ref (qw)) (C := RX9) (T := TX9) (N := 2) hx hb hts hin9 hown hK hP 7 rfl rfl 0 (by decide) (hN.F 4 rfl) (fun _ h9 => h9) rfl dX1_divide_152 ?_
          refine lv_iload hx hb dX1_divide_155 (lv_at hl 1 rfl) ?_
          refine lv_iload hx hb dX1_divide_157 (lv_at hl 0 rfl) ?_
          refine zr_iast hx hb hK hP hD hS 8 0 rfl rfl (t) (by omega) (by omega) (by omega) dX1_divide_159 (fun H locs hP hD hS => ?_)
          have hP : va_P D vwCl [(dv, .inr (1, [.ref (dd), .ref (ds)])), (dd, aI cI (97) (u')), (ds, aI cI (97) (v)), (a, .inr (9, [.ref (aw), .int (iZ (((n : Nat) : Int)))])), (aw, aI cI (ra) (d)), (b, .inr (9, [.ref (bw), .int (iZ (((k : Nat) : Int)))])), (bw, aI cI (rb) (e)), (q, .inr (9, [.ref (qw), .int (iZ (cq))])), (qw, aI cI (rq) (zu (gq) (t) (zq))), (r, .inr (9, [.ref (rw), .int (iZ (cr))])), (rw, aI cI (rr) (gr0))] H := hP
          have hD : va_D A [(dv, .inr (1, [.ref (dd), .ref (ds)])), (dd, aI cI (97) (u')), (ds, aI cI (97) (v)), (a, .inr (9, [.ref (aw), .int (iZ (((n : Nat) : Int)))])), (aw, aI cI (ra) (d)), (b, .inr (9, [.ref (bw), .int (iZ (((k : Nat) : Int)))])), (bw, aI cI (rb) (e)), (q, .inr (9, [.ref (qw), .int (iZ (cq))])), (qw, aI cI (rq) (zu (gq) (t) (zq))), (r, .inr (9, [.ref (rw), .int (iZ (cr))])), (rw, aI cI (rr) (gr0))] := hD
          refine lv_iinc (v := iZ (((t : Nat) : Int) - 1)) (lv' := [(8, .int (iZ (((t : Nat) : Int) - 1))), (9, .int (iZ (zq))), (7, .int (iZ (((sh : Nat) : Int)))), (6, .int (iZ (((((n : Nat) : Int)) - (((k : Nat) : Int))) + (1)))), (5, .int (iZ (((k : Nat) : Int)))), (0, .ref (dv)), (1, .ref (a)), (2, .ref (b)), (3, .ref (q)), (4, .ref (r))]) hx hb dX1_divide_160 hl (k := 1) rfl (iZ_add _ _) (by decide) rfl (fun ls hl => ?_)
          refine lv_goto (tgt := 112) hx hb dX1_divide_163 (by decide) ?_
          exact ih u' (zu gq t zq) H locs ls (by omega) hu' (fun j q1 q2 => by by_cases q3 : j = t; (subst q3; rw [zu_s]; exact hzq); (rw [zu_n gq zq q3]; exact hgq j (by omega) q2)) (kd_div_step (by omega) (by omega) hu' hVk hsame hw0 hw hAq).1 (kd_div_step (by omega) (by omega) hu' hVk hsame hw0 hw hAq).2 hP hD hS (lv_sub hl [0, 2, 3, 4, 5, 6, 7, 8, 9] rfl)
        have ex : ((t + 1 : Nat) : Int) - 1 = ((t : Nat) : Int) := by omega
        rw [ex] at hl
        refine lv_iload hx hb dX1_divide_112 (lv_at hl 0 rfl) ?_
        refine zr_if_lt hx hb 166 ⟨by omega, by omega⟩ dX1_divide_114 (by decide) (fun h_114 => ?_) (fun h_114 => ?_)
        · exfalso; omega
        · refine lv_aload_n hx hb dX1_divide_117 rfl (lv_at hl 4 rfl) ?_
          refine lv_iload hx hb dX1_divide_118 (lv_at hl 0 rfl) ?_
          refine lv_iload hx hb dX1_divide_120 (lv_at hl 3 rfl) ?_
          refine zc_Vi (As := [.int (iZ (((t : Nat) : Int))), .int (iZ (((k : Nat) : Int)))]) (rest := []) (wr := [(a, .inr (9, [.ref (aw), .int (iZ (((n : Nat) : Int)))])), (aw, aI cI (ra) (d)), (b, .inr (9, [.ref (bw), .int (iZ (((k : Nat) : Int)))])), (bw, aI cI (rb) (e)), (q, .inr (9, [.ref (qw), .int (iZ (cq))])), (qw, aI cI (rq) (gq)), (r, .inr (9, [.ref (rw), .int (iZ (cr))])), (rw, aI cI (rr) (gr0))]) ⟨hx, hb, hml, hown, hts⟩ (c_guessDigit l D cI cJ cE cF cR dv dd ds k t (n + 1) u v hu hvd hk0 (by omega) (by omega) htop hUV) (cwV 2 hts gX1_divide_X1_guessDigit rfl rfl rfl (by decide +kernel) ⟨Nat.le_of_ble_eq_true rfl, Nat.le_of_ble_eq_true rfl⟩) hN hK hP hD hS hA [0, 1, 2] [3, 4, 5, 6, 7, 8, 9, 10] rfl rfl (by decide) (by decide) (by decide) (q0 := 0) (ci := 1) rfl rfl rfl rfl hl.1 (Nat.le_of_ble_eq_true rfl) dX1_divide_122 ⟨by decide, by decide⟩ (fun z w1 H locs hz122 hp hP hD hS => ?_)
          obtain ⟨hw1, hz0, hzq, hzc⟩ := hp
          subst hw1
          have hP := hP.sub (ws' := [(dv, .inr (1, [.ref (dd), .ref (ds)])), (dd, aI cI (97) (u)), (ds, aI cI (97) (v)), (a, .inr (9, [.ref (aw), .int (iZ (((n : Nat) : Int)))])), (aw, aI cI (ra) (d)), (b, .inr (9, [.ref (bw), .int (iZ (((k : Nat) : Int)))])), (bw, aI cI (rb) (e)), (q, .inr (9, [.ref (qw), .int (iZ (cq))])), (qw, aI cI (rq) (gq)), (r, .inr (9, [.ref (rw), .int (iZ (cr))])), (rw, aI cI (rr) (gr0))]) [8, 9, 10, 0, 1, 2, 3, 4, 5, 6, 7] rfl
          have hD := hD.sub (ws' := [(dv, .inr (1, [.ref (dd), .ref (ds)])), (dd, aI cI (97) (u)), (ds, aI cI (97) (v)), (a, .inr (9, [.ref (aw), .int (iZ (((n : Nat) : Int)))])), (aw, aI cI (ra) (d)), (b, .inr (9, [.ref (bw), .int (iZ (((k : Nat) : Int)))])), (bw, aI cI (rb) (e)), (q, .inr (9, [.ref (qw), .int (iZ (cq))])), (qw, aI cI (rq) (gq)), (r, .inr (9, [.ref (rw), .int (iZ (cr))])), (rw, aI cI (rr) (gr0))]) [8, 9, 10, 0, 1, 2, 3, 4, 5, 6, 7] (by decide) rfl
          refine lv_istore (lv' := [(9, .int (iZ (z))), (8, .int (iZ (((t : Nat) : Int)))), (7, .int (iZ (((sh : Nat) : Int)))), (6, .int (iZ (((((n : Nat) : Int)) - (((k : Nat) : Int))) + (1)))), (5, .int (iZ (((k : Nat) : Int)))), (0, .ref (dv)), (1, .ref (a)), (2, .ref (b)), (3, .ref (q)), (4, .ref (r))]) hx hb dX1_divide_125 hl (by decide) rfl (fun ls hl => ?_)
          refine lv_aload_n hx hb dX1_divide_127 rfl (lv_at hl 5 rfl) ?_
          refine lv_iload hx hb dX1_divide_128 (lv_at hl 0 rfl) ?_
          refine lv_iload hx hb dX1_divide_130 (lv_at hl 1 rfl) ?_
          refine lv_iload hx hb dX1_divide_132 (lv_at hl 4 rfl) ?_
          refine zc_Vi (As := [.int (iZ (z)), .int (iZ (((t : Nat) : Int))), .int (iZ (((k : Nat) : Int)))]) (rest := []) (wr := [(a, .inr (9, [.ref (aw), .int (iZ (((n : Nat) : Int)))])), (aw, aI cI (ra) (d)), (b, .inr (9, [.ref (bw), .int (iZ (((k : Nat) : Int)))])), (bw, aI cI (rb) (e)), (q, .inr (9, [.ref (qw), .int (iZ (cq))])), (qw, aI cI (rq) (gq)), (r, .inr (9, [.ref (rw), .int (iZ (cr))])), (rw, aI cI (rr) (gr0))]) ⟨hx, hb, hml, hown, hts⟩ (c_takeTimes l D cI cJ cE cF cR dv dd ds k t (n + 1) z u v hz0 hu hvd (by omega) (by omega)) (cwV 3 hts gX1_divide_X1_takeTimes rfl rfl rfl (by decide +kernel) ⟨Nat.le_of_ble_eq_true rfl, Nat.le_of_ble_eq_true rfl⟩) hN hK hP hD hS hA [0, 1, 2] [3, 4, 5, 6, 7, 8, 9, 10] rfl rfl (by decide) (by decide) (by decide) (q0 := 0) (ci := 1) rfl rfl rfl rfl hl.1 (Nat.le_of_ble_eq_true rfl) dX1_divide_134 ⟨by decide, by decide⟩ (fun rt w1 H locs hz134 hp hP hD hS => ?_)
          obtain ⟨g1, hw1, hg1, hg2, hg3⟩ := hp
          subst hw1
          have hU9 := bg_val_nn (bg_win_dg hg1 (show t + (k + 1) ≤ n + 1 by omega))
          have hU8 := bg_val_lt (bg_win_dg hg1 (show t + (k + 1) ≤ n + 1 by omega))
          have hP := hP.sub (ws' := [(dv, .inr (1, [.ref (dd), .ref (ds)])), (dd, aI cI (97) (g1)), (ds, aI cI (97) (v)), (a, .inr (9, [.ref (aw), .int (iZ (((n : Nat) : Int)))])), (aw, aI cI (ra) (d)), (b, .inr (9, [.ref (bw), .int (iZ (((k : Nat) : Int)))])), (bw, aI cI (rb) (e)), (q, .inr (9, [.ref (qw), .int (iZ (cq))])), (qw, aI cI (rq) (gq)), (r, .inr (9, [.ref (rw), .int (iZ (cr))])), (rw, aI cI (rr) (gr0))]) [8, 9, 10, 0, 1, 2, 3, 4, 5, 6, 7] rfl
          have hD := hD.sub (ws' := [(dv, .inr (1, [.ref (dd), .ref (ds)])), (dd, aI cI (97) (g1)), (ds, aI cI (97) (v)), (a, .inr (9, [.ref (aw), .int (iZ (((n : Nat) : Int)))])), (aw, aI cI (ra) (d)), (b, .inr (9, [.ref (bw), .int (iZ (((k : Nat) : Int)))])), (bw, aI cI (rb) (e)), (q, .inr (9, [.ref (qw), .int (iZ (cq))])), (qw, aI cI (rq) (gq)), (r, .inr (9, [.ref (rw), .int (iZ (cr))])), (rw, aI cI (rr) (gr0))]) [8, 9, 10, 0, 1, 2, 3, 4, 5, 6, 7] (by decide) rfl
          refine zr_if_eq hx hb 151 ⟨by omega, by omega⟩ dX1_divide_137 (by decide) (fun h_137 => ?_) (fun h_137 => ?_)
          · have hr0 : rt = 0 := by omega
            have f4 : bg_val (fun j => g1 (t + j)) (k + 1) = bg_val (fun j => u (t + j)) (k + 1) - z * bg_val v k := by rcases hg3 with ⟨q1, _⟩ | ⟨_, q2⟩; (omega); (exact q2)
            have f5 := hzq (z + 1) (by omega)
            rw [Int.add_mul] at f5
            exact jn z g1 H locs ls hz0 hg1 hg2 ⟨by omega, by omega⟩ f4 hP hD hS (lv_sub hl [0, 1, 2, 3, 4, 5, 6, 7, 8, 9] rfl)
          · refine lv_iinc (v := iZ (z - 1)) (lv' := [(9, .int (iZ (z - 1))), (8, .int (iZ (((t : Nat) : Int)))), (7, .int (iZ (((sh : Nat) : Int)))), (6, .int (iZ (((((n : Nat) : Int)) - (((k : Nat) : Int))) + (1)))), (5, .int (iZ (((k : Nat) : Int)))), (0, .ref (dv)), (1, .ref (a)), (2, .ref (b)), (3, .ref (q)), (4, .ref (r))]) hx hb dX1_divide_140 hl (k := 0) rfl (iZ_add z (-1)) (by decide) rfl (fun ls hl => ?_)
            refine lv_aload_n hx hb dX1_divide_143 rfl (lv_at hl 5 rfl) ?_
            refine lv_iload hx hb dX1_divide_144 (lv_at hl 1 rfl) ?_
            refine lv_iload hx hb dX1_divide_146 (lv_at hl 4 rfl) ?_
            refine zc_Vv (As := [.int (iZ (((t : Nat) : Int))), .int (iZ (((k : Nat) : Int)))]) (rest := []) (wr := [(a, .inr (9, [.ref (aw), .int (iZ (((n : Nat) : Int)))])), (aw, aI cI (ra) (d)), (b, .inr (9, [.ref (bw), .int (iZ (((k : Nat) : Int)))])), (bw, aI cI (rb) (e)), (q, .inr (9, [.ref (qw), .int (iZ (cq))])), (qw, aI cI (rq) (gq)), (r, .inr (9, [.ref (rw), .int (iZ (cr))])), (rw, aI cI (rr) (gr0))]) ⟨hx, hb, hml, hown, hts⟩ (c_giveBack l D cI cJ cE cF cR dv dd ds k t (n + 1) g1 v hg1 hvd (by omega) (by omega)) (cwV 2 hts gX1_divide_X1_giveBack rfl rfl rfl (by decide +kernel) ⟨Nat.le_of_ble_eq_true rfl, Nat.le_of_ble_eq_true rfl⟩) hN hK hP hD hS hA [0, 1, 2] [3, 4, 5, 6, 7, 8, 9, 10] rfl rfl (by decide) (by decide) (by decide) (q0 := 0) (ci := 1) rfl rfl rfl rfl hl.1 (Nat.le_of_ble_eq_true rfl) dX1_divide_148 ⟨by decide, by decide⟩ (fun w1 H locs hp hP hD hS => ?_)
            obtain ⟨g2, cc, hw1, hh1, hh2, hh3, hh4⟩ := hp
            subst hw1
            have hP := hP.sub (ws' := [(dv, .inr (1, [.ref (dd), .ref (ds)])), (dd, aI cI (97) (g2)), (ds, aI cI (97) (v)), (a, .inr (9, [.ref (aw), .int (iZ (((n : Nat) : Int)))])), (aw, aI cI (ra) (d)), (b, .inr (9, [.ref (bw), .int (iZ (((k : Nat) : Int)))])), (bw, aI cI (rb) (e)), (q, .inr (9, [.ref (qw), .int (iZ (cq))])), (qw, aI cI (rq) (gq)), (r, .inr (9, [.ref (rw), .int (iZ (cr))])), (rw, aI cI (rr) (gr0))]) [8, 9, 10, 0, 1, 2, 3, 4, 5, 6, 7] rfl
            have hD := hD.sub (ws' := [(dv, .inr (1, [.ref (dd), .ref (ds)])), (dd, aI cI (97) (g2)), (ds, aI cI (97) (v)), (a, .inr (9, [.ref (aw), .int (iZ (((n : Nat) : Int)))])), (aw, aI cI (ra) (d)), (b, .inr (9, [.ref (bw), .int (iZ (((k : Nat) : Int)))])), (bw, aI cI (rb) (e)), (q, .inr (9, [.ref (qw), .int (iZ (cq))])), (qw, aI cI (rq) (gq)), (r, .inr (9, [.ref (rw), .int (iZ (cr))])), (rw, aI cI (rr) (gr0))]) [8, 9, 10, 0, 1, 2, 3, 4, 5, 6, 7] (by decide) rfl
            have f4 : bg_val (fun j => g1 (t + j)) (k + 1) = bg_val (fun j => u (t + j)) (k + 1) - z * bg_val v k + bg_p (k + 1) := by rcases hg3 with ⟨_, q2⟩ | ⟨q1, _⟩; (exact q2); (omega)
            have f6 := bg_val_nn (bg_win_dg hh1 (show t + (k + 1) ≤ n + 1 by omega))
            have f7 := bg_val_lt (bg_win_dg hh1 (show t + (k + 1) ≤ n + 1 by omega))
            have f8 : (z - 1) * bg_val v k = z * bg_val v k - bg_val v k := by rw [Int.sub_mul, Int.one_mul]
            have f9 : bg_p (k + 1) = 2147483648 * bg_p k := bg_ps k
            have f10 := bg_p_pos k
            have hz9 : 1 ≤ z := by
              rcases (show z = 0 ∨ 1 ≤ z by omega) with w9 | w9
              · rw [w9, Int.zero_mul] at f4; omega
              · exact w9
            have f11 : cc = 1 := by
              rcases (show cc = 0 ∨ cc = 1 by omega) with w9 | w9
              · rw [w9, Int.zero_mul] at hh4; omega
              · exact w9
            rw [f11, Int.one_mul] at hh4
            exact jn (z - 1) g2 H locs ls ⟨by omega, by omega⟩ hh1 (fun j hj => by rw [hh2 j hj]; exact hg2 j hj) ⟨by omega, by omega⟩ (by omega) hP hD hS (lv_sub hl [0, 1, 2, 3, 4, 5, 6, 7, 8, 9] rfl)
    refine lv_iload hx hb dX1_divide_106 (lv_at hl 1 rfl) ?_
    refine lv_iconst (v := iZ 1) hx hb dX1_divide_108 rfl ?_
    refine zr_isub hx hb dX1_divide_109 ?_
    refine zr_eqi (((n + 1 - k : Nat) : Int) - 1) (by omega) ?_
    refine lv_istore (lv' := [(8, .int (iZ (((n + 1 - k : Nat) : Int) - 1))), (7, .int (iZ (((sh : Nat) : Int)))), (6, .int (iZ (((((n : Nat) : Int)) - (((k : Nat) : Int))) + (1)))), (5, .int (iZ (((k : Nat) : Int)))), (0, .ref (dv)), (1, .ref (a)), (2, .ref (b)), (3, .ref (q)), (4, .ref (r))]) hx hb dX1_divide_110 hl (by decide) rfl (fun ls hl => ?_)
    exact lp (n + 1 - k) u gq0 H locs ls (Nat.le_refl _) hu (fun j q1 q2 => absurd q1 (by omega)) (by rw [Nat.sub_self, bg_v0, Int.zero_mul, Int.zero_mul, Int.zero_add, show n + 1 - k + k = n + 1 by omega, huv, h1.2.2.2]) hR0 hP hD hS (lv_sub hl [0, 1, 2, 3, 4, 5, 6, 7, 8] rfl)
  refine lv_aload_n hx hb dX1_divide_0 rfl (lv_at hl 2 rfl) ?_
  refine va_getN (D := D) (ci := 9) (v := .int (iZ (((k : Nat) : Int)))) (C := RX9) (T := TX9) (N := 2) hx hb hts hin9 hown hK hP 5 rfl rfl 1 (by decide) (hN.F 6 rfl) (fun _ h9 => h9) rfl dX1_divide_1 ?_
  refine lv_istore (lv' := [(5, .int (iZ (((k : Nat) : Int)))), (0, .ref (dv)), (1, .ref (a)), (2, .ref (b)), (3, .ref (q)), (4, .ref (r))]) hx hb dX1_divide_4 hl (by decide) rfl (fun ls hl => ?_)
  refine lv_aload_n hx hb dX1_divide_6 rfl (lv_at hl 2 rfl) ?_
  refine va_getN (D := D) (ci := 9) (v := .int (iZ (((n : Nat) : Int)))) (C := RX9) (T := TX9) (N := 2) hx hb hts hin9 hown hK hP 3 rfl rfl 1 (by decide) (hN.F 6 rfl) (fun _ h9 => h9) rfl dX1_divide_7 ?_
  refine lv_iload hx hb dX1_divide_10 (lv_at hl 0 rfl) ?_
  refine zr_isub hx hb dX1_divide_12 ?_
  refine lv_iconst (v := iZ 1) hx hb dX1_divide_13 rfl ?_
  refine zr_iadd hx hb dX1_divide_14 ?_
  refine lv_istore (lv' := [(6, .int (iZ (((((n : Nat) : Int)) - (((k : Nat) : Int))) + (1)))), (5, .int (iZ (((k : Nat) : Int)))), (0, .ref (dv)), (1, .ref (a)), (2, .ref (b)), (3, .ref (q)), (4, .ref (r))]) hx hb dX1_divide_15 hl (by decide) rfl (fun ls hl => ?_)
  refine lv_iload hx hb dX1_divide_17 (lv_at hl 1 rfl) ?_
  refine zr_if_eq hx hb 55 ⟨by omega, by omega⟩ dX1_divide_19 (by decide) (fun h_19 => ?_) (fun h_19 => ?_)
  · exfalso; omega
  · refine lv_aload_n hx hb dX1_divide_22 rfl (lv_at hl 3 rfl) ?_
    refine va_getN (D := D) (ci := 9) (v := .int (iZ (((n : Nat) : Int)))) (C := RX9) (T := TX9) (N := 2) hx hb hts hin9 hown hK hP 3 rfl rfl 1 (by decide) (hN.F 6 rfl) (fun _ h9 => h9) rfl dX1_divide_23 ?_
    refine lv_aload_n hx hb dX1_divide_26 rfl (lv_at hl 2 rfl) ?_
    refine va_get (D := D) (ci := 1) (v := .ref (dd)) (C := RX1) (T := TX1) (N := 2) hx hb hts hin1 hown hK hP 0 rfl rfl 0 (by decide) q_f_RX1_9_Division_dividend_I (fun _ h9 => h9) rfl dX1_divide_27 ?_
    refine zr_alen hx hb hK hP 1 0 rfl rfl dX1_divide_30 ?_
    refine zr_icmp_ge hx hb 55 ⟨by omega, by omega⟩ ⟨by omega, by omega⟩ dX1_divide_31 (by decide) (fun h_31 => ?_) (fun h_31 => ?_)
    · exfalso; omega
    · refine lv_iload hx hb dX1_divide_34 (lv_at hl 1 rfl) ?_
      refine lv_aload hx hb dX1_divide_36 (lv_at hl 6 rfl) ?_
      refine va_getN (D := D) (ci := 9) (v := .ref (rw)) (C := RX9) (T := TX9) (N := 2) hx hb hts hin9 hown hK hP 9 rfl rfl 0 (by decide) (hN.F 4 rfl) (fun _ h9 => h9) rfl dX1_divide_38 ?_
      refine zr_alen hx hb hK hP 10 0 rfl rfl dX1_divide_41 ?_
      refine zr_icmp_gt hx hb 55 ⟨by omega, by omega⟩ ⟨by omega, by omega⟩ dX1_divide_42 (by decide) (fun h_42 => ?_) (fun h_42 => ?_)
      · exfalso; omega
      · refine lv_iload hx hb dX1_divide_45 (lv_at hl 0 rfl) ?_
        refine lv_aload_n hx hb dX1_divide_47 rfl (lv_at hl 5 rfl) ?_
        refine va_getN (D := D) (ci := 9) (v := .ref (qw)) (C := RX9) (T := TX9) (N := 2) hx hb hts hin9 hown hK hP 7 rfl rfl 0 (by decide) (hN.F 4 rfl) (fun _ h9 => h9) rfl dX1_divide_48 ?_
        refine zr_alen hx hb hK hP 8 0 rfl rfl dX1_divide_51 ?_
        refine zr_icmp_le hx hb 56 ⟨by omega, by omega⟩ ⟨by omega, by omega⟩ dX1_divide_52 (by decide) (fun h_52 => ?_) (fun h_52 => ?_)
        · refine lv_iload hx hb dX1_divide_56 (lv_at hl 0 rfl) ?_
          refine zr_if_gt hx hb 72 ⟨by omega, by omega⟩ dX1_divide_58 (by decide) (fun h_58 => ?_) (fun h_58 => ?_)
          · have bt := h2.2.1 (k - 1) (by omega)
            have bt2 := h2.2.2.1 (by omega)
            refine lv_aload_n hx hb dX1_divide_72 rfl (lv_at hl 4 rfl) ?_
            refine va_getN (D := D) (ci := 9) (v := .ref (bw)) (C := RX9) (T := TX9) (N := 2) hx hb hts hin9 hown hK hP 5 rfl rfl 0 (by decide) (hN.F 4 rfl) (fun _ h9 => h9) rfl dX1_divide_73 ?_
            refine lv_iload hx hb dX1_divide_76 (lv_at hl 1 rfl) ?_
            refine lv_iconst (v := iZ 1) hx hb dX1_divide_78 rfl ?_
            refine zr_isub hx hb dX1_divide_79 ?_
            refine zr_iald hx hb hK hP 6 0 rfl rfl (k - 1) (by omega) (by omega) (by omega) dX1_divide_80 ?_
            refine zc_SNi (As := [.int (iZ ((e) (k - 1)))]) (rest := []) (wr := [(dv, .inr (1, [.ref (dd), .ref (ds)])), (dd, aI cI (97) (u0)), (ds, aI cI (97) (v0)), (a, .inr (9, [.ref (aw), .int (iZ (((n : Nat) : Int)))])), (aw, aI cI (ra) (d)), (b, .inr (9, [.ref (bw), .int (iZ (((k : Nat) : Int)))])), (bw, aI cI (rb) (e)), (q, .inr (9, [.ref (qw), .int (iZ (cq))])), (qw, aI cI (rq) (gq0)), (r, .inr (9, [.ref (rw), .int (iZ (cr))])), (rw, aI cI (rr) (gr0))]) ⟨hx, hb, hml, hown, hts⟩ (c_spareBits l D cI cJ cE cF cR (e (k - 1)) ⟨by omega, by omega⟩) ⟨va_cnB 1 hts gX1_divide_X10_spareBits_n34 rfl rfl rfl (hN.M 2 rfl) q_initialized_RX10 (by decide +kernel) ⟨Nat.le_of_ble_eq_true rfl, Nat.le_of_ble_eq_true rfl⟩, q_static_yX10_spareBits, trivial⟩ hN hK hP hD hS hA [] [0, 1, 2, 3, 4, 5, 6, 7, 8, 9, 10] rfl rfl (by decide) (by decide) (by decide) rfl hl.1 (Nat.le_of_ble_eq_true rfl) dX1_divide_81 ⟨by decide, by decide⟩ (fun z81 w1 H locs hz81 hp hP hD hS => ?_)
            obtain ⟨hw1, sh, hq, hsh, hsh2, hsh3⟩ := hp
            subst hw1
            subst hq
            have hP := hP.sub (ws' := [(dv, .inr (1, [.ref (dd), .ref (ds)])), (dd, aI cI (97) (u0)), (ds, aI cI (97) (v0)), (a, .inr (9, [.ref (aw), .int (iZ (((n : Nat) : Int)))])), (aw, aI cI (ra) (d)), (b, .inr (9, [.ref (bw), .int (iZ (((k : Nat) : Int)))])), (bw, aI cI (rb) (e)), (q, .inr (9, [.ref (qw), .int (iZ (cq))])), (qw, aI cI (rq) (gq0)), (r, .inr (9, [.ref (rw), .int (iZ (cr))])), (rw, aI cI (rr) (gr0))]) [0, 1, 2, 3, 4, 5, 6, 7, 8, 9, 10] rfl
            have hD := hD.sub (ws' := [(dv, .inr (1, [.ref (dd), .ref (ds)])), (dd, aI cI (97) (u0)), (ds, aI cI (97) (v0)), (a, .inr (9, [.ref (aw), .int (iZ (((n : Nat) : Int)))])), (aw, aI cI (ra) (d)), (b, .inr (9, [.ref (bw), .int (iZ (((k : Nat) : Int)))])), (bw, aI cI (rb) (e)), (q, .inr (9, [.ref (qw), .int (iZ (cq))])), (qw, aI cI (rq) (gq0)), (r, .inr (9, [.ref (rw), .int (iZ (cr))])), (rw, aI cI (rr) (gr0))]) [0, 1, 2, 3, 4, 5, 6, 7, 8, 9, 10] (by decide) rfl
            refine lv_istore (lv' := [(7, .int (iZ (((sh : Nat) : Int)))), (6, .int (iZ (((((n : Nat) : Int)) - (((k : Nat) : Int))) + (1)))), (5, .int (iZ (((k : Nat) : Int)))), (0, .ref (dv)), (1, .ref (a)), (2, .ref (b)), (3, .ref (q)), (4, .ref (r))]) hx hb dX1_divide_84 hl (by decide) rfl (fun ls hl => ?_)
            refine lv_aload_n hx hb dX1_divide_86 rfl (lv_at hl 4 rfl) ?_
            refine lv_iload hx hb dX1_divide_87 (lv_at hl 0 rfl) ?_
            refine lv_aload_n hx hb dX1_divide_89 rfl (lv_at hl 3 rfl) ?_
            refine va_get (D := D) (ci := 1) (v := .ref (dd)) (C := RX1) (T := TX1) (N := 2) hx hb hts hin1 hown hK hP 0 rfl rfl 0 (by decide) q_f_RX1_9_Division_dividend_I (fun _ h9 => h9) rfl dX1_divide_90 ?_
            refine zc_Sv (As := [.ref (a), .int (iZ (((sh : Nat) : Int))), .ref (dd)]) (rest := []) (wr := [(dv, .inr (1, [.ref (dd), .ref (ds)])), (ds, aI cI (97) (v0)), (b, .inr (9, [.ref (bw), .int (iZ (((k : Nat) : Int)))])), (bw, aI cI (rb) (e)), (q, .inr (9, [.ref (qw), .int (iZ (cq))])), (qw, aI cI (rq) (gq0)), (r, .inr (9, [.ref (rw), .int (iZ (cr))])), (rw, aI cI (rr) (gr0))]) ⟨hx, hb, hml, hown, hts⟩ (c_shiftUp l D cI cJ cE cF cR a aw dd ra 97 n sh d u0 v1 h1 hsh hn hra (by decide)) (va_cwS 3 hts gX1_divide_X1_shiftUp rfl rfl rfl (by decide +kernel) ⟨Nat.le_of_ble_eq_true rfl, Nat.le_of_ble_eq_true rfl⟩) hN hK hP hD hS hA [3, 4, 1] [0, 2, 5, 6, 7, 8, 9, 10] rfl rfl (by decide) (by decide) (by decide) rfl hl.1 (Nat.le_of_ble_eq_true rfl) dX1_divide_93 ⟨by decide, by decide⟩ (fun w1 H locs hp hP hD hS => ?_)
            obtain ⟨u, hw1, hu, huv⟩ := hp
            subst hw1
            have hP := hP.sub (ws' := [(dv, .inr (1, [.ref (dd), .ref (ds)])), (dd, aI cI (97) (u)), (ds, aI cI (97) (v0)), (a, .inr (9, [.ref (aw), .int (iZ (((n : Nat) : Int)))])), (aw, aI cI (ra) (d)), (b, .inr (9, [.ref (bw), .int (iZ (((k : Nat) : Int)))])), (bw, aI cI (rb) (e)), (q, .inr (9, [.ref (qw), .int (iZ (cq))])), (qw, aI cI (rq) (gq0)), (r, .inr (9, [.ref (rw), .int (iZ (cr))])), (rw, aI cI (rr) (gr0))]) [0, 10, 1, 8, 9, 2, 3, 4, 5, 6, 7] rfl
            have hD := hD.sub (ws' := [(dv, .inr (1, [.ref (dd), .ref (ds)])), (dd, aI cI (97) (u)), (ds, aI cI (97) (v0)), (a, .inr (9, [.ref (aw), .int (iZ (((n : Nat) : Int)))])), (aw, aI cI (ra) (d)), (b, .inr (9, [.ref (bw), .int (iZ (((k : Nat) : Int)))])), (bw, aI cI (rb) (e)), (q, .inr (9, [.ref (qw), .int (iZ (cq))])), (qw, aI cI (rq) (gq0)), (r, .inr (9, [.ref (rw), .int (iZ (cr))])), (rw, aI cI (rr) (gr0))]) [0, 10, 1, 8, 9, 2, 3, 4, 5, 6, 7] (by decide) rfl
            refine lv_aload_n hx hb dX1_divide_96 rfl (lv_at hl 5 rfl) ?_
            refine lv_iload hx hb dX1_divide_97 (lv_at hl 0 rfl) ?_
            refine lv_aload_n hx hb dX1_divide_99 rfl (lv_at hl 3 rfl) ?_
            refine va_get (D := D) (ci := 1) (v := .ref (ds)) (C := RX1) (T := TX1) (N := 2) hx hb hts hin1 hown hK hP 0 rfl rfl 1 (by decide) q_f_RX1_15_Division_divisor_I (fun _ h9 => h9) rfl dX1_divide_100 ?_
            refine zc_Sv (As := [.ref (b), .int (iZ (((sh : Nat) : Int))), .ref (ds)]) (rest := []) (wr := [(dv, .inr (1, [.ref (dd), .ref (ds)])), (dd, aI cI (97) (u)), (a, .inr (9, [.ref (aw), .int (iZ (((n : Nat) : Int)))])), (aw, aI cI (ra) (d)), (q, .inr (9, [.ref (qw), .int (iZ (cq))])), (qw, aI cI (rq) (gq0)), (r, .inr (9, [.ref (rw), .int (iZ (cr))])), (rw, aI cI (rr) (gr0))]) ⟨hx, hb, hml, hown, hts⟩ (c_shiftUp l D cI cJ cE cF cR b bw ds rb 97 k sh e v0 v2 h2 hsh (by omega) hrb (by decide)) (va_cwS 3 hts gX1_divide_X1_shiftUp rfl rfl rfl (by decide +kernel) ⟨Nat.le_of_ble_eq_true rfl, Nat.le_of_ble_eq_true rfl⟩) hN hK hP hD hS hA [5, 6, 2] [0, 1, 3, 4, 7, 8, 9, 10] rfl rfl (by decide) (by decide) (by decide) rfl hl.1 (Nat.le_of_ble_eq_true rfl) dX1_divide_103 ⟨by decide, by decide⟩ (fun w1 H locs hp hP hD hS => ?_)
            obtain ⟨v, hw1, hv, hvv⟩ := hp
            subst hw1
            have hvd := bg_dg_le hv (show k ≤ k + 1 by omega)
            have hnorm : bg_val v k = v2 * bg_t sh ∧ 1073741824 ≤ v (k - 1) := by
              obtain ⟨m, rfl⟩ : ∃ m, k = m + 1 := ⟨k - 1, by omega⟩
              exact kd_norm h2 hsh hsh2 hsh3 hv hvv
            have hP := hP.sub (ws' := [(dv, .inr (1, [.ref (dd), .ref (ds)])), (dd, aI cI (97) (u)), (ds, aI cI (97) (v)), (a, .inr (9, [.ref (aw), .int (iZ (((n : Nat) : Int)))])), (aw, aI cI (ra) (d)), (b, .inr (9, [.ref (bw), .int (iZ (((k : Nat) : Int)))])), (bw, aI cI (rb) (e)), (q, .inr (9, [.ref (qw), .int (iZ (cq))])), (qw, aI cI (rq) (gq0)), (r, .inr (9, [.ref (rw), .int (iZ (cr))])), (rw, aI cI (rr) (gr0))]) [0, 1, 10, 2, 3, 8, 9, 4, 5, 6, 7] rfl
            have hD := hD.sub (ws' := [(dv, .inr (1, [.ref (dd), .ref (ds)])), (dd, aI cI (97) (u)), (ds, aI cI (97) (v)), (a, .inr (9, [.ref (aw), .int (iZ (((n : Nat) : Int)))])), (aw, aI cI (ra) (d)), (b, .inr (9, [.ref (bw), .int (iZ (((k : Nat) : Int)))])), (bw, aI cI (rb) (e)), (q, .inr (9, [.ref (qw), .int (iZ (cq))])), (qw, aI cI (rq) (gq0)), (r, .inr (9, [.ref (rw), .int (iZ (cr))])), (rw, aI cI (rr) (gr0))]) [0, 1, 10, 2, 3, 8, 9, 4, 5, 6, 7] (by decide) rfl
            have hst : bg_val (fun j => u (n + 1 - k + j)) k < bg_val v k := by
              obtain ⟨m, rfl⟩ : ∃ m, k = m + 1 := ⟨k - 1, by omega⟩
              exact kd_start h1 hsh (by omega) hu huv hvd hnorm.2
            exact mn sh u v H locs ls hsh (by omega) hu huv hvd hnorm.1 hnorm.2 hst hP hD hS (lv_sub hl [0, 1, 2, 3, 4, 5, 6, 7] rfl)
          · refine lv_aload hx hb dX1_divide_61 (lv_at hl 6 rfl) ?_
            refine lv_aload_n hx hb dX1_divide_63 rfl (lv_at hl 3 rfl) ?_
            refine zc_Vv (As := [.ref (a)]) (rest := []) (wr := [(dv, .inr (1, [.ref (dd), .ref (ds)])), (dd, aI cI (97) (u0)), (ds, aI cI (97) (v0)), (b, .inr (9, [.ref (bw), .int (iZ (((k : Nat) : Int)))])), (bw, aI cI (rb) (e)), (q, .inr (9, [.ref (qw), .int (iZ (cq))])), (qw, aI cI (rq) (gq0))]) ⟨hx, hb, hml, hown, hts⟩ (c_copyFrom l D cI cJ cE cF cR r rw a aw rr ra n cr gr0 d v1 h1 (by omega) hrr hra) (cwV 1 hts gX1_divide_X9_copyFrom rfl rfl rfl (by decide +kernel) ⟨Nat.le_of_ble_eq_true rfl, Nat.le_of_ble_eq_true rfl⟩) hN hK hP hD hS hA [9, 10, 3, 4] [0, 1, 2, 5, 6, 7, 8] rfl rfl (by decide) (by decide) (by decide) (q0 := 0) (ci := 9) rfl rfl rfl rfl hl.1 (Nat.le_of_ble_eq_true rfl) dX1_divide_64 ⟨by decide, by decide⟩ (fun w1 H locs hp hP hD hS => ?_)
            obtain ⟨gr, nr, hw1, hgr⟩ := hp
            subst hw1
            have hP := hP.sub (ws' := [(dv, .inr (1, [.ref (dd), .ref (ds)])), (dd, aI cI (97) (u0)), (ds, aI cI (97) (v0)), (a, .inr (9, [.ref (aw), .int (iZ (((n : Nat) : Int)))])), (aw, aI cI (ra) (d)), (b, .inr (9, [.ref (bw), .int (iZ (((k : Nat) : Int)))])), (bw, aI cI (rb) (e)), (q, .inr (9, [.ref (qw), .int (iZ (cq))])), (qw, aI cI (rq) (gq0)), (r, .inr (9, [.ref (rw), .int (iZ (((nr : Nat) : Int)))])), (rw, aI cI (rr) (gr))]) [0, 1, 2, 9, 10, 3, 4, 5, 6, 7, 8] rfl
            have hD := hD.sub (ws' := [(dv, .inr (1, [.ref (dd), .ref (ds)])), (dd, aI cI (97) (u0)), (ds, aI cI (97) (v0)), (a, .inr (9, [.ref (aw), .int (iZ (((n : Nat) : Int)))])), (aw, aI cI (ra) (d)), (b, .inr (9, [.ref (bw), .int (iZ (((k : Nat) : Int)))])), (bw, aI cI (rb) (e)), (q, .inr (9, [.ref (qw), .int (iZ (cq))])), (qw, aI cI (rq) (gq0)), (r, .inr (9, [.ref (rw), .int (iZ (((nr : Nat) : Int)))])), (rw, aI cI (rr) (gr))]) [0, 1, 2, 9, 10, 3, 4, 5, 6, 7, 8] (by decide) rfl
            refine lv_aload_n hx hb dX1_divide_67 rfl (lv_at hl 5 rfl) ?_
            refine zc_Vv (As := []) (rest := []) (wr := [(dv, .inr (1, [.ref (dd), .ref (ds)])), (dd, aI cI (97) (u0)), (ds, aI cI (97) (v0)), (a, .inr (9, [.ref (aw), .int (iZ (((n : Nat) : Int)))])), (aw, aI cI (ra) (d)), (b, .inr (9, [.ref (bw), .int (iZ (((k : Nat) : Int)))])), (bw, aI cI (rb) (e)), (qw, aI cI (rq) (gq0)), (r, .inr (9, [.ref (rw), .int (iZ (((nr : Nat) : Int)))])), (rw, aI cI (rr) (gr))]) ⟨hx, hb, hml, hown, hts⟩ (c_clear l D cI cJ cE cF cR q qw (cq)) (cwV 0 hts gX1_divide_X9_clear rfl rfl rfl (by decide +kernel) ⟨Nat.le_of_ble_eq_true rfl, Nat.le_of_ble_eq_true rfl⟩) hN hK hP hD hS hA [7] [0, 1, 2, 3, 4, 5, 6, 8, 9, 10] rfl rfl (by decide) (by decide) (by decide) (q0 := 0) (ci := 9) rfl rfl rfl rfl hl.1 (Nat.le_of_ble_eq_true rfl) dX1_divide_68 ⟨by decide, by decide⟩ (fun w1 H locs hp hP hD hS => ?_)
            obtain rfl : w1 = _ := hp
            have hP := hP.sub (ws' := [(dv, .inr (1, [.ref (dd), .ref (ds)])), (dd, aI cI (97) (u0)), (ds, aI cI (97) (v0)), (a, .inr (9, [.ref (aw), .int (iZ (((n : Nat) : Int)))])), (aw, aI cI (ra) (d)), (b, .inr (9, [.ref (bw), .int (iZ (((k : Nat) : Int)))])), (bw, aI cI (rb) (e)), (q, .inr (9, [.ref (qw), .int (iZ (0))])), (qw, aI cI (rq) (gq0)), (r, .inr (9, [.ref (rw), .int (iZ (((nr : Nat) : Int)))])), (rw, aI cI (rr) (gr))]) [0, 1, 2, 3, 4, 5, 6, 10, 7, 8, 9] rfl
            have hD := hD.sub (ws' := [(dv, .inr (1, [.ref (dd), .ref (ds)])), (dd, aI cI (97) (u0)), (ds, aI cI (97) (v0)), (a, .inr (9, [.ref (aw), .int (iZ (((n : Nat) : Int)))])), (aw, aI cI (ra) (d)), (b, .inr (9, [.ref (bw), .int (iZ (((k : Nat) : Int)))])), (bw, aI cI (rb) (e)), (q, .inr (9, [.ref (qw), .int (iZ (0))])), (qw, aI cI (rq) (gq0)), (r, .inr (9, [.ref (rw), .int (iZ (((nr : Nat) : Int)))])), (rw, aI cI (rr) (gr))]) [0, 1, 2, 3, 4, 5, 6, 10, 7, 8, 9] (by decide) rfl
            exact zr_vret hQ hx hb hr hlk dX1_divide_71 hK hP hD hS (by omega) (by omega) (by
  have f1 := bg_lt_cnt h1.2.1 h2.2.1 h2.2.2.1 (show n < k by omega)
  rw [h1.2.2.2, h2.2.2.2] at f1
  refine ⟨u0, v0, gq0, gr, 0, nr, rfl, ?_, ?_⟩
  · rw [Int.ediv_eq_zero_of_lt (bg_ok_nn h1) f1]; exact ⟨Nat.zero_le _, fun i hi => absurd hi (Nat.not_lt_zero i), fun q => absurd q (Nat.lt_irrefl 0), rfl⟩
  · rw [Int.emod_eq_of_lt (bg_ok_nn h1) f1]; exact hgr)
        · exfalso; omega

set_option maxHeartbeats 4000000 in
set_option maxRecDepth 100000 in
/-- Division.divide -/
theorem c_divideA (l : Launch) (D : va_G) (cI cJ cE cF cR : ClassId) (dv dd ds a aw b bw r rw ra rb rr n k : Nat) (cr : Int) (u0 v0 d e gr0 : Nat → Int) (v1 v2 : Int) (h1 : bg_ok d n ra v1) (h2 : bg_ok e k rb v2) (hb0 : 0 < v2) (hn : n < 97) (hkr : k ≤ rr) (hdq : n + 1 ≤ ra + k) (hra : ra < 2147483648) (hrb : rb < 2147483648) (hrr : rr < 2147483648) : Cv l D (zty cI cJ cE cF cR) yX1_divide wsX1_divide (zRm 2 81) 0 0 [.ref (dv), .ref (a), .ref (b), .ref (a), .ref (r)] [(dv, .inr (1, [.ref (dd), .ref (ds)])), (dd, aI cI (97) (u0)), (ds, aI cI (97) (v0)), (a, .inr (9, [.ref (aw), .int (iZ (((n : Nat) : Int)))])), (aw, aI cI (ra) (d)), (b, .inr (9, [.ref (bw), .int (iZ (((k : Nat) : Int)))])), (bw, aI cI (rb) (e)), (r, .inr (9, [.ref (rw), .int (iZ (cr))])), (rw, aI cI (rr) (gr0))] (fun w1 => ∃ (u v gq gr : Nat → Int) (nq nr : Nat), w1 = [(dv, .inr (1, [.ref (dd), .ref (ds)])), (dd, aI cI (97) (u)), (ds, aI cI (97) (v)), (a, .inr (9, [.ref (aw), .int (iZ (((nq : Nat) : Int)))])), (aw, aI cI (ra) (gq)), (b, .inr (9, [.ref (bw), .int (iZ (((k : Nat) : Int)))])), (bw, aI cI (rb) (e)), (r, .inr (9, [.ref (rw), .int (iZ (((nr : Nat) : Int)))])), (rw, aI cI (rr) (gr))] ∧ bg_ok gq nq ra (v1 / v2) ∧ bg_ok gr nr rr (v1 % v2)) := by
  unfold Cv
  refine zs (Qc := zQv D _ _) (cc := cX1_divide) (maxL := 10) (ret := none) (by decide) rfl (Nat.le_of_ble_eq_true rfl) ?_
  intro zp ze s zm below meth zc ls A args Q hQ hx hb hr hts hown hlk hml hnm hN hA hK hP hD hS hl
  have hin9 : ∀ w ∈ wsX90, w ∈ wsX1_divide := by decide +kernel
  have q_f_RX1_9_Division_dividend_I := hts (.fieldLink RX1 9 "LimbSolver$Division" "dividend" "[I") (by decide +kernel)
  have hin1 : ∀ w ∈ wsX10, w ∈ wsX1_divide := by decide +kernel
  have q_initialized_RX10 := hts (.initialized RX10) (by decide +kernel)
  have q_static_yX10_spareBits := hts (.static yX10_spareBits) (by decide +kernel)
  have q_f_RX1_15_Division_divisor_I := hts (.fieldLink RX1 15 "LimbSolver$Division" "divisor" "[I") (by decide +kernel)
  have hl : lv_has ls 10 [(0, .ref (dv)), (1, .ref (a)), (2, .ref (b)), (3, .ref (a)), (4, .ref (r))] := hl
  have hrq := hra
  have hna := h1.1
  have hkb := h2.1
  have hk0 : 0 < k := by
    rcases Nat.eq_zero_or_pos k with q9 | q9
    · have := (bg_ok_zero h2).mpr q9; omega
    · exact q9
  have mn : ∀ (sh : Nat) (u v : Nat → Int) (H : Heap) (locs : List Loc) (ls : Array Slot), (sh ≤ 30) → (k ≤ n) → (bg_dg u (n + 1)) → (bg_val u (n + 1) = bg_val d n * bg_t sh) → (bg_dg v k) → (bg_val v k = v2 * bg_t sh) → (1073741824 ≤ v (k - 1)) → (bg_val (fun j => u (n + 1 - k + j)) k < bg_val v k) →  va_P D vwCl [(dv, .inr (1, [.ref (dd), .ref (ds)])), (dd, aI cI (97) (u)), (ds, aI cI (97) (v)), (a, .inr (9, [.ref (aw), .int (iZ (((n : Nat) : Int)))])), (aw, aI cI (ra) (d)), (b, .inr (9, [.ref (bw), .int (iZ (((k : Nat) : Int)))])), (bw, aI cI (rb) (e)), (r, .inr (9, [.ref (rw), .int (iZ (cr))])), (rw, aI cI (rr) (gr0))] H → va_D A [(dv, .inr (1, [.ref (dd), .ref (ds)])), (dd, aI cI (97) (u)), (ds, aI cI (97) (v)), (a, .inr (9, [.ref (aw), .int (iZ (((n : Nat) : Int)))])), (aw, aI cI (ra) (d)), (b, .inr (9, [.ref (bw), .int (iZ (((k : Nat) : Int)))])), (bw, aI cI (rb) (e)), (r, .inr (9, [.ref (rw), .int (iZ (cr))])), (rw, aI cI (rr) (gr0))] → va_S A s.heap H locs → lv_has ls 10 [(7, .int (iZ (((sh : Nat) : Int)))), (6, .int (iZ (((((n : Nat) : Int)) - (((k : Nat) : Int))) + (1)))), (5, .int (iZ (((k : Nat) : Int)))), (0, .ref (dv)), (1, .ref (a)), (2, .ref (b)), (3, .ref (a)), (4, .ref (r))] → W zp l ze (zRm 2 81) s zm args below meth zc H locs 0 0 Q (F0 zm 106 ls []) := by
    intro sh u v H locs ls hsh hkn hu huv hvd hVV htop hR0 hP hD hS hl
    have hVk : bg_val v k < bg_p k := bg_val_lt hvd
    have lp : ∀ (t : Nat) (u gq : Nat → Int) (H : Heap) (locs : List Loc) (ls : Array Slot), (t ≤ n + 1 - k) → (bg_dg u (n + 1)) → (∀ j : Nat, t ≤ j → j < n + 1 - k → 0 ≤ gq j ∧ gq j < 2147483648) → (v1 * bg_t sh = bg_val (fun j => gq (t + j)) (n + 1 - k - t) * bg_p t * bg_val v k + bg_val u (t + k)) → (bg_val (fun j => u (t + j)) k < bg_val v k) →  va_P D vwCl [(dv, .inr (1, [.ref (dd), .ref (ds)])), (dd, aI cI (97) (u)), (ds, aI cI (97) (v)), (a, .inr (9, [.ref (aw), .int (iZ (((n : Nat) : Int)))])), (aw, aI cI (ra) (gq)), (b, .inr (9, [.ref (bw), .int (iZ (((k : Nat) : Int)))])), (bw, aI cI (rb) (e)), (r, .inr (9, [.ref (rw), .int (iZ (cr))])), (rw, aI cI (rr) (gr0))] H → va_D A [(dv, .inr (1, [.ref (dd), .ref (ds)])), (dd, aI cI (97) (u)), (ds, aI cI (97) (v)), (a, .inr (9, [.ref (aw), .int (iZ (((n : Nat) : Int)))])), (aw, aI cI (ra) (gq)), (b, .inr (9, [.ref (bw), .int (iZ (((k : Nat) : Int)))])), (bw, aI cI (rb) (e)), (r, .inr (9, [.ref (rw), .int (iZ (cr))])), (rw, aI cI (rr) (gr0))] → va_S A s.heap H locs → lv_has ls 10 [(8, .int (iZ (((t : Nat) : Int) - 1))), (7, .int (iZ (((sh : Nat) : Int)))), (6, .int (iZ (((((n : Nat) : Int)) - (((k : Nat) : Int))) + (1)))), (5, .int (iZ (((k : Nat) : Int)))), (0, .ref (dv)), (1, .ref (a)), (2, .ref (b)), (3, .ref (a)), (4, .ref (r))] → W zp l ze (zRm 2 81) s zm args below meth zc H locs 0 0 Q (F0 zm 112 ls []) := by
      intro t
      induction t with
      | zero =>
        intro u gq H locs ls htT hu hgq hAq hR hP hD hS hl
        refine lv_iload hx hb dX1_divide_112 (lv_at hl 0 rfl) ?_
        refine zr_if_lt hx hb 166 ⟨by omega, by omega⟩ dX1_divide_114 (by decide) (fun h_114 => ?_) (fun h_114 => ?_)
        · refine lv_aload_n hx hb dX1_divide_166 rfl (lv_at hl 7 rfl) ?_
          refine lv_iload hx hb dX1_divide_167 (lv_at hl 2 rfl) ?_
          refine zr_eqi (((n + 1 - k : Nat) : Int)) (by omega) ?_
          refine zc_Vv (As := [.int (iZ (((n + 1 - k : Nat) : Int)))]) (rest := []) (wr := [(dv, .inr (1, [.ref (dd), .ref (ds)])), (dd, aI cI (97) (u)), (ds, aI cI (97) (v)), (b, .inr (9, [.ref (bw), .int (iZ (((k : Nat) : Int)))])), (bw, aI cI (rb) (e)), (r, .inr (9, [.ref (rw), .int (iZ (cr))])), (rw, aI cI (rr) (gr0))]) ⟨hx, hb, hml, hown, hts⟩ (c_trim l D cI cJ cE cF cR a aw ra (n + 1 - k) (((n : Nat) : Int)) gq (by omega) hrq (fun j hj => hgq j (Nat.zero_le j) hj)) (cwV 1 hts gX1_divide_X9_trim rfl rfl rfl (by decide +kernel) ⟨Nat.le_of_ble_eq_true rfl, Nat.le_of_ble_eq_true rfl⟩) hN hK hP hD hS hA [3, 4] [0, 1, 2, 5, 6, 7, 8] rfl rfl (by decide) (by decide) (by decide) (q0 := 0) (ci := 9) rfl rfl rfl rfl hl.1 (Nat.le_of_ble_eq_true rfl) dX1_divide_169 ⟨by decide, by decide⟩ (fun w1 H locs hp hP hD hS => ?_)
          obtain rfl : w1 = _ := hp
          have hP := hP.sub (ws' := [(dv, .inr (1, [.ref (dd), .ref (ds)])), (dd, aI cI (97) (u)), (ds, aI cI (97) (v)), (a, .inr (9, [.ref (aw), .int (iZ (((bg_trim gq (n + 1 - k) : Nat) : Int)))])), (aw, aI cI (ra) (gq)), (b, .inr (9, [.ref (bw), .int (iZ (((k : Nat) : Int)))])), (bw, aI cI (rb) (e)), (r, .inr (9, [.ref (rw), .int (iZ (cr))])), (rw, aI cI (rr) (gr0))]) [0, 1, 2, 7, 8, 3, 4, 5, 6] rfl
          have hD := hD.sub (ws' := [(dv, .inr (1, [.ref (dd), .ref (ds)])), (dd, aI cI (97) (u)), (ds, aI cI (97) (v)), (a, .inr (9, [.ref (aw), .int (iZ (((bg_trim gq (n + 1 - k) : Nat) : Int)))])), (aw, aI cI (ra) (gq)), (b, .inr (9, [.ref (bw), .int (iZ (((k : Nat) : Int)))])), (bw, aI cI (rb) (e)), (r, .inr (9, [.ref (rw), .int (iZ (cr))])), (rw, aI cI (rr) (gr0))]) [0, 1, 2, 7, 8, 3, 4, 5, 6] (by decide) rfl
          refine lv_aload_n hx hb dX1_divide_172 rfl (lv_at hl 4 rfl) ?_
          refine lv_iload hx hb dX1_divide_173 (lv_at hl 3 rfl) ?_
          refine lv_iload hx hb dX1_divide_175 (lv_at hl 1 rfl) ?_
          refine lv_aload hx hb dX1_divide_177 (lv_at hl 8 rfl) ?_
          refine va_getN (D := D) (ci := 9) (v := .ref (rw)) (C := RX9) (T := TX9) (N := 2) hx hb hts hin9 hown hK hP 7 rfl rfl 0 (by decide) (hN.F 4 rfl) (fun _ h9 => h9) rfl dX1_divide_179 ?_
          refine zc_Vv (As := [.int (iZ (((k : Nat) : Int))), .int (iZ (((sh : Nat) : Int))), .ref (rw)]) (rest := []) (wr := [(ds, aI cI (97) (v)), (a, .inr (9, [.ref (aw), .int (iZ (((bg_trim gq (n + 1 - k) : Nat) : Int)))])), (aw, aI cI (ra) (gq)), (b, .inr (9, [.ref (bw), .int (iZ (((k : Nat) : Int)))])), (bw, aI cI (rb) (e)), (r, .inr (9, [.ref (rw), .int (iZ (cr))]))]) ⟨hx, hb, hml, hown, hts⟩ (c_shiftDown l D cI cJ cE cF cR dv dd ds rw rr k sh u gr0 (bg_dg_le hu (by omega)) hsh hk0 (by omega) hkr hrr) (cwV 3 hts gX1_divide_X1_shiftDown rfl rfl rfl (by decide +kernel) ⟨Nat.le_of_ble_eq_true rfl, Nat.le_of_ble_eq_true rfl⟩) hN hK hP hD hS hA [0, 1, 8] [2, 3, 4, 5, 6, 7] rfl rfl (by decide) (by decide) (by decide) (q0 := 0) (ci := 1) rfl rfl rfl rfl hl.1 (Nat.le_of_ble_eq_true rfl) dX1_divide_182 ⟨by decide, by decide⟩ (fun w1 H locs hp hP hD hS => ?_)
          obtain ⟨gr, hw1, hgr1, hgr2⟩ := hp
          subst hw1
          have hP := hP.sub (ws' := [(dv, .inr (1, [.ref (dd), .ref (ds)])), (dd, aI cI (97) (u)), (ds, aI cI (97) (v)), (a, .inr (9, [.ref (aw), .int (iZ (((bg_trim gq (n + 1 - k) : Nat) : Int)))])), (aw, aI cI (ra) (gq)), (b, .inr (9, [.ref (bw), .int (iZ (((k : Nat) : Int)))])), (bw, aI cI (rb) (e)), (r, .inr (9, [.ref (rw), .int (iZ (cr))])), (rw, aI cI (rr) (gr))]) [6, 7, 0, 1, 2, 3, 4, 5, 8] rfl
          have hD := hD.sub (ws' := [(dv, .inr (1, [.ref (dd), .ref (ds)])), (dd, aI cI (97) (u)), (ds, aI cI (97) (v)), (a, .inr (9, [.ref (aw), .int (iZ (((bg_trim gq (n + 1 - k) : Nat) : Int)))])), (aw, aI cI (ra) (gq)), (b, .inr (9, [.ref (bw), .int (iZ (((k : Nat) : Int)))])), (bw, aI cI (rb) (e)), (r, .inr (9, [.ref (rw), .int (iZ (cr))])), (rw, aI cI (rr) (gr))]) [6, 7, 0, 1, 2, 3, 4, 5, 8] (by decide) rfl
          refine lv_aload hx hb dX1_divide_185 (lv_at hl 8 rfl) ?_
          refine lv_iload hx hb dX1_divide_187 (lv_at hl 3 rfl) ?_
          refine zc_Vv (As := [.int (iZ (((k : Nat) : Int)))]) (rest := []) (wr := [(dv, .inr (1, [.ref (dd), .ref (ds)])), (dd, aI cI (97) (u)), (ds, aI cI (97) (v)), (a, .inr (9, [.ref (aw), .int (iZ (((bg_trim gq (n + 1 - k) : Nat) : Int)))])), (aw, aI cI (ra) (gq)), (b, .inr (9, [.ref (bw), .int (iZ (((k : Nat) : Int)))])), (bw, aI cI (rb) (e))]) ⟨hx, hb, hml, hown, hts⟩ (c_trim l D cI cJ cE cF cR r rw rr k cr gr hkr hrr hgr1) (cwV 1 hts gX1_divide_X9_trim rfl rfl rfl (by decide +kernel) ⟨Nat.le_of_ble_eq_true rfl, Nat.le_of_ble_eq_true rfl⟩) hN hK hP hD hS hA [7, 8] [0, 1, 2, 3, 4, 5, 6] rfl rfl (by decide) (by decide) (by decide) (q0 := 0) (ci := 9) rfl rfl rfl rfl hl.1 (Nat.le_of_ble_eq_true rfl) dX1_divide_189 ⟨by decide, by decide⟩ (fun w1 H locs hp hP hD hS => ?_)
          obtain rfl : w1 = _ := hp
          have hP := hP.sub (ws' := [(dv, .inr (1, [.ref (dd), .ref (ds)])), (dd, aI cI (97) (u)), (ds, aI cI (97) (v)), (a, .inr (9, [.ref (aw), .int (iZ (((bg_trim gq (n + 1 - k) : Nat) : Int)))])), (aw, aI cI (ra) (gq)), (b, .inr (9, [.ref (bw), .int (iZ (((k : Nat) : Int)))])), (bw, aI cI (rb) (e)), (r, .inr (9, [.ref (rw), .int (iZ (((bg_trim gr k : Nat) : Int)))])), (rw, aI cI (rr) (gr))]) [0, 1, 2, 3, 4, 5, 6, 7, 8] rfl
          have hD := hD.sub (ws' := [(dv, .inr (1, [.ref (dd), .ref (ds)])), (dd, aI cI (97) (u)), (ds, aI cI (97) (v)), (a, .inr (9, [.ref (aw), .int (iZ (((bg_trim gq (n + 1 - k) : Nat) : Int)))])), (aw, aI cI (ra) (gq)), (b, .inr (9, [.ref (bw), .int (iZ (((k : Nat) : Int)))])), (bw, aI cI (rb) (e)), (r, .inr (9, [.ref (rw), .int (iZ (((bg_trim gr k : Nat) : Int)))])), (rw, aI cI (rr) (gr))]) [0, 1, 2, 3, 4, 5, 6, 7, 8] (by decide) rfl
          exact zr_vret hQ hx hb hr hlk dX1_divide_192 hK hP hD hS (by omega) (by omega) (by
  have f1 : v1 * bg_t sh = bg_val gq (n + 1 - k) * (v2 * bg_t sh) + bg_val u k := by
    have q1 := hAq
    simp only [Nat.zero_add, Nat.sub_zero, bg_p0, Int.mul_one] at q1
    rw [hVV] at q1
    exact q1
  have f2 : bg_val u k < v2 * bg_t sh := by
    have q1 := hR
    simp only [Nat.zero_add] at q1
    rw [hVV] at q1
    exact q1
  obtain ⟨f3, f4⟩ := kd_fin (bg_t_pos sh) hb0 f1 ⟨bg_val_nn (bg_dg_le hu (by omega)), f2⟩
  refine ⟨u, v, gq, gr, _, _, rfl, ?_, ?_⟩
  · rw [← f3]; exact bg_ok_trim (by omega) (fun j hj => hgq j (Nat.zero_le j) hj)
  · rw [← f4, ← hgr2]; exact bg_ok_trim hkr hgr1)
        · exfalso; omega
      | succ t ih =>
        intro u gq H locs ls htT hu hgq hAq hR hP hD hS hl
        have hUV := kd_win hu (show t + k < n + 1 by omega) hR
        have hU0 := bg_val_nn (bg_win_dg hu (show t + (k + 1) ≤ n + 1 by omega))
        have jn : ∀ (zq : Int) (u' : Nat → Int) (H : Heap) (locs : List Loc) (ls : Array Slot), (0 ≤ zq ∧ zq < 2147483648) → (bg_dg u' (n + 1)) → (∀ j : Nat, j < t ∨ t + k < j → u' j = u j) → (0 ≤ bg_val (fun j => u (t + j)) (k + 1) - zq * bg_val v k ∧ bg_val (fun j => u (t + j)) (k + 1) - zq * bg_val v k < bg_val v k) → (bg_val (fun j => u' (t + j)) (k + 1) = bg_val (fun j => u (t + j)) (k + 1) - zq * bg_val v k) →  va_P D vwCl [(dv, .inr (1, [.ref (dd), .ref (ds)])), (dd, aI cI (97) (u')), (ds, aI cI (97) (v)), (a, .inr (9, [.ref (aw), .int (iZ (((n : Nat) : Int)))])), (aw, aI cI (ra) (gq)), (b, .inr (9, [.ref (bw), .int (iZ (((k : Nat) : Int)))])), (bw, aI cI (rb) (e)), (r, .inr (9, [.ref (rw), .int (iZ (cr))])), (rw, aI cI (rr) (gr0))] H → va_D A [(dv, .inr (1, [.ref (dd), .ref (ds)])), (dd, aI cI (97) (u')), (ds, aI cI (97) (v)), (a, .inr (9, [.ref (aw), .int (iZ (((n : Nat) : Int)))])), (aw, aI cI (ra) (gq)), (b, .inr (9, [.ref (bw), .int (iZ (((k : Nat) : Int)))])), (bw, aI cI (rb) (e)), (r, .inr (9, [.ref (rw), .int (iZ (cr))])), (rw, aI cI (rr) (gr0))] → va_S A s.heap H locs → lv_has ls 10 [(9, .int (iZ (zq))), (8, .int (iZ (((t : Nat) : Int)))), (7, .int (iZ (((sh : Nat) : Int)))), (6, .int (iZ (((((n : Nat) : Int)) - (((k : Nat) : Int))) + (1)))), (5, .int (iZ (((k : Nat) : Int)))), (0, .ref (dv)), (1, .ref (a)), (2, .ref (b)), (3, .ref (a)), (4, .ref (r))] → W zp l ze (zRm 2 81) s zm args below meth zc H locs 0 0 Q (F0 zm 151 ls []) := by
          intro zq u' H locs ls hzq hu' hsame hw0 hw hP hD hS hl
          refine lv_aload_n hx hb dX1_divide_151 rfl (lv_at hl 8 rfl) ?_
          refine va_getN (D := D) (ci := 9) (v := .ref (aw)) (C := RX9) (T := TX9) (N := 2) hx hb hts hin9 hown hK hP 3 rfl rfl 0 (by decide) (hN.F 4 rfl) (fun _ h9 => h9) rfl dX1_divide_152 ?_
          refine lv_iload hx hb dX1_divide_155 (lv_at hl 1 rfl) ?_
          refine lv_iload hx hb dX1_divide_157 (lv_at hl 0 rfl) ?_
          refine zr_iast hx hb hK hP hD hS 4 0 rfl rfl (t) (by omega) (by omega) (by omega) dX1_divide_159 (fun H locs hP hD hS => ?_)
          have hP : va_P D vwCl [(dv, .inr (1, [.ref (dd), .ref (ds)])), (dd, aI cI (97) (u')), (ds, aI cI (97) (v)), (a, .inr (9, [.ref (aw), .int (iZ (((n : Nat) : Int)))])), (aw, aI cI (ra) (zu (gq) (t) (zq))), (b, .inr (9, [.ref (bw), .int (iZ (((k : Nat) : Int)))])), (bw, aI cI (rb) (e)), (r, .inr (9, [.ref (rw), .int (iZ (cr))])), (rw, aI cI (rr) (gr0))] H := hP
          have hD : va_D A [(dv, .inr (1, [.ref (dd), .ref (ds)])), (dd, aI cI (97) (u')), (ds, aI cI (97) (v)), (a, .inr (9, [.ref (aw), .int (iZ (((n : Nat) : Int)))])), (aw, aI cI (ra) (zu (gq) (t) (zq))), (b, .inr (9, [.ref (bw), .int (iZ (((k : Nat) : Int)))])), (bw, aI cI (rb) (e)), (r, .inr (9, [.ref (rw), .int (iZ (cr))])), (rw, aI cI (rr) (gr0))] := hD
          refine lv_iinc (v := iZ (((t : Nat) : Int) - 1)) (lv' := [(8, .int (iZ (((t : Nat) : Int) - 1))), (9, .int (iZ (zq))), (7, .int (iZ (((sh : Nat) : Int)))), (6, .int (iZ (((((n : Nat) : Int)) - (((k : Nat) : Int))) + (1)))), (5, .int (iZ (((k : Nat) : Int)))), (0, .ref (dv)), (1, .ref (a)), (2, .ref (b)), (3, .ref (a)), (4, .ref (r))]) hx hb dX1_divide_160 hl (k := 1) rfl (iZ_add _ _) (by decide) rfl (fun ls hl => ?_)
          refine lv_goto (tgt := 112) hx hb dX1_divide_163 (by decide) ?_
          exact ih u' (zu gq t zq) H locs ls (by omega) hu' (fun j q1 q2 => by by_cases q3 : j = t; (subst q3; rw [zu_s]; exact hzq); (rw [zu_n gq zq q3]; exact hgq j (by omega) q2)) (kd_div_step (by omega) (by omega) hu' hVk hsame hw0 hw hAq).1 (kd_div_step (by omega) (by omega) hu' hVk hsame hw0 hw hAq).2 hP hD hS (lv_sub hl [0, 2, 3, 4, 5, 6, 7, 8, 9] rfl)
        have ex : ((t + 1 : Nat) : Int) - 1 = ((t : Nat) : Int) := by omega
        rw [ex] at hl
        refine lv_iload hx hb dX1_divide_112 (lv_at hl 0 rfl) ?_
        refine zr_if_lt hx hb 166 ⟨by omega, by omega⟩ dX1_divide_114 (by decide) (fun h_114 => ?_) (fun h_114 => ?_)
        · exfalso; omega
        · refine lv_aload_n hx hb dX1_divide_117 rfl (lv_at hl 4 rfl) ?_
          refine lv_iload hx hb dX1_divide_118 (lv_at hl 0 rfl) ?_
          refine lv_iload hx hb dX1_divide_120 (lv_at hl 3 rfl) ?_
          refine zc_Vi (As := [.int (iZ (((t : Nat) : Int))), .int (iZ (((k : Nat) : Int)))]) (rest := []) (wr := [(a, .inr (9, [.ref (aw), .int (iZ (((n : Nat) : Int)))])), (aw, aI cI (ra) (gq)), (b, .inr (9, [.ref (bw), .int (iZ (((k : Nat) : Int)))])), (bw, aI cI (rb) (e)), (r, .inr (9, [.ref (rw), .int (iZ (cr))])), (rw, aI cI (rr) (gr0))]) ⟨hx, hb, hml, hown, hts⟩ (c_guessDigit l D cI cJ cE cF cR dv dd ds k t (n + 1) u v hu hvd hk0 (by omega) (by omega) htop hUV) (cwV 2 hts gX1_divide_X1_guessDigit rfl rfl rfl (by decide +kernel) ⟨Nat.le_of_ble_eq_true rfl, Nat.le_of_ble_eq_true rfl⟩) hN hK hP hD hS hA [0, 1, 2] [3, 4, 5, 6, 7, 8] rfl rfl (by decide) (by decide) (by decide) (q0 := 0) (ci := 1) rfl rfl rfl rfl hl.1 (Nat.le_of_ble_eq_true rfl) dX1_divide_122 ⟨by decide, by decide⟩ (fun z w1 H locs hz122 hp hP hD hS => ?_)
          obtain ⟨hw1, hz0, hzq, hzc⟩ := hp
          subst hw1
          have hP := hP.sub (ws' := [(dv, .inr (1, [.ref (dd), .ref (ds)])), (dd, aI cI (97) (u)), (ds, aI cI (97) (v)), (a, .inr (9, [.ref (aw), .int (iZ (((n : Nat) : Int)))])), (aw, aI cI (ra) (gq)), (b, .inr (9, [.ref (bw), .int (iZ (((k : Nat) : Int)))])), (bw, aI cI (rb) (e)), (r, .inr (9, [.ref (rw), .int (iZ (cr))])), (rw, aI cI (rr) (gr0))]) [6, 7, 8, 0, 1, 2, 3, 4, 5] rfl
          have hD := hD.sub (ws' := [(dv, .inr (1, [.ref (dd), .ref (ds)])), (dd, aI cI (97) (u)), (ds, aI cI (97) (v)), (a, .inr (9, [.ref (aw), .int (iZ (((n : Nat) : Int)))])), (aw, aI cI (ra) (gq)), (b, .inr (9, [.ref (bw), .int (iZ (((k : Nat) : Int)))])), (bw, aI cI (rb) (e)), (r, .inr (9, [.ref (rw), .int (iZ (cr))])), (rw, aI cI (rr) (gr0))]) [6, 7, 8, 0, 1, 2, 3, 4, 5] (by decide) rfl
          refine lv_istore (lv' := [(9, .int (iZ (z))), (8, .int (iZ (((t : Nat) : Int)))), (7, .int (iZ (((sh : Nat) : Int)))), (6, .int (iZ (((((n : Nat) : Int)) - (((k : Nat) : Int))) + (1)))), (5, .int (iZ (((k : Nat) : Int)))), (0, .ref (dv)), (1, .ref (a)), (2, .ref (b)), (3, .ref (a)), (4, .ref (r))]) hx hb dX1_divide_125 hl (by decide) rfl (fun ls hl => ?_)
          refine lv_aload_n hx hb dX1_divide_127 rfl (lv_at hl 5 rfl) ?_
          refine lv_iload hx hb dX1_divide_128 (lv_at hl 0 rfl) ?_
          refine lv_iload hx hb dX1_divide_130 (lv_at hl 1 rfl) ?_
          refine lv_iload hx hb dX1_divide_132 (lv_at hl 4 rfl) ?_
          refine zc_Vi (As := [.int (iZ (z)), .int (iZ (((t : Nat) : Int))), .int (iZ (((k : Nat) : Int)))]) (rest := []) (wr := [(a, .inr (9, [.ref (aw), .int (iZ (((n : Nat) : Int)))])), (aw, aI cI (ra) (gq)), (b, .inr (9, [.ref (bw), .int (iZ (((k : Nat) : Int)))])), (bw, aI cI (rb) (e)), (r, .inr (9, [.ref (rw), .int (iZ (cr))])), (rw, aI cI (rr) (gr0))]) ⟨hx, hb, hml, hown, hts⟩ (c_takeTimes l D cI cJ cE cF cR dv dd ds k t (n + 1) z u v hz0 hu hvd (by omega) (by omega)) (cwV 3 hts gX1_divide_X1_takeTimes rfl rfl rfl (by decide +kernel) ⟨Nat.le_of_ble_eq_true rfl, Nat.le_of_ble_eq_true rfl⟩) hN hK hP hD hS hA [0, 1, 2] [3, 4, 5, 6, 7, 8] rfl rfl (by decide) (by decide) (by decide) (q0 := 0) (ci := 1) rfl rfl rfl rfl hl.1 (Nat.le_of_ble_eq_true rfl) dX1_divide_134 ⟨by decide, by decide⟩ (fun rt w1 H locs hz134 hp hP hD hS => ?_)
          obtain ⟨g1, hw1, hg1, hg2, hg3⟩ := hp
          subst hw1
          have hU9 := bg_val_nn (bg_win_dg hg1 (show t + (k + 1) ≤ n + 1 by omega))
          have hU8 := bg_val_lt (bg_win_dg hg1 (show t + (k + 1) ≤ n + 1 by omega))
          have hP := hP.sub (ws' := [(dv, .inr (1, [.ref (dd), .ref (ds)])), (dd, aI cI (97) (g1)), (ds, aI cI (97) (v)), (a, .inr (9, [.ref (aw), .int (iZ (((n : Nat) : Int)))])), (aw, aI cI (ra) (gq)), (b, .inr (9, [.ref (bw), .int (iZ (((k : Nat) : Int)))])), (bw, aI cI (rb) (e)), (r, .inr (9, [.ref (rw), .int (iZ (cr))])), (rw, aI cI (rr) (gr0))]) [6, 7, 8, 0, 1, 2, 3, 4, 5] rfl
          have hD := hD.sub (ws' := [(dv, .inr (1, [.ref (dd), .ref (ds)])), (dd, aI cI (97) (g1)), (ds, aI cI (97) (v)), (a, .inr (9, [.ref (aw), .int (iZ (((n : Nat) : Int)))])), (aw, aI cI (ra) (gq)), (b, .inr (9, [.ref (bw), .int (iZ (((k : Nat) : Int)))])), (bw, aI cI (rb) (e)), (r, .inr (9, [.ref (rw), .int (iZ (cr))])), (rw, aI cI (rr) (gr0))]) [6, 7, 8, 0, 1, 2, 3, 4, 5] (by decide) rfl
          refine zr_if_eq hx hb 151 ⟨by omega, by omega⟩ dX1_divide_137 (by decide) (fun h_137 => ?_) (fun h_137 => ?_)
          · have hr0 : rt = 0 := by omega
            have f4 : bg_val (fun j => g1 (t + j)) (k + 1) = bg_val (fun j => u (t + j)) (k + 1) - z * bg_val v k := by rcases hg3 with ⟨q1, _⟩ | ⟨_, q2⟩; (omega); (exact q2)
            have f5 := hzq (z + 1) (by omega)
            rw [Int.add_mul] at f5
            exact jn z g1 H locs ls hz0 hg1 hg2 ⟨by omega, by omega⟩ f4 hP hD hS (lv_sub hl [0, 1, 2, 3, 4, 5, 6, 7, 8, 9] rfl)
          · refine lv_iinc (v := iZ (z - 1)) (lv' := [(9, .int (iZ (z - 1))), (8, .int (iZ (((t : Nat) : Int)))), (7, .int (iZ (((sh : Nat) : Int)))), (6, .int (iZ (((((n : Nat) : Int)) - (((k : Nat) : Int))) + (1)))), (5, .int (iZ (((k : Nat) : Int)))), (0, .ref (dv)), (1, .ref (a)), (2, .ref (b)), (3, .ref (a)), (4, .ref (r))]) hx hb dX1_divide_140 hl (k := 0) rfl (iZ_add z (-1)) (by decide) rfl (fun ls hl => ?_)
            refine lv_aload_n hx hb dX1_divide_143 rfl (lv_at hl 5 rfl) ?_
            refine lv_iload hx hb dX1_divide_144 (lv_at hl 1 rfl) ?_
            refine lv_iload hx hb dX1_divide_146 (lv_at hl 4 rfl) ?_
            refine zc_Vv (As := [.int (iZ (((t : Nat) : Int))), .int (iZ (((k : Nat) : Int)))]) (rest := []) (wr := [(a, .inr (9, [.ref (aw), .int (iZ (((n : Nat) : Int)))])), (aw, aI cI (ra) (gq)), (b, .inr (9, [.ref (bw), .int (iZ (((k : Nat) : Int)))])), (bw, aI cI (rb) (e)), (r, .inr (9, [.ref (rw), .int (iZ (cr))])), (rw, aI cI (rr) (gr0))]) ⟨hx, hb, hml, hown, hts⟩ (c_giveBack l D cI cJ cE cF cR dv dd ds k t (n + 1) g1 v hg1 hvd (by omega) (by omega)) (cwV 2 hts gX1_divide_X1_giveBack rfl rfl rfl (by decide +kernel) ⟨Nat.le_of_ble_eq_true rfl, Nat.le_of_ble_eq_true rfl⟩) hN hK hP hD hS hA [0, 1, 2] [3, 4, 5, 6, 7, 8] rfl rfl (by decide) (by decide) (by decide) (q0 := 0) (ci := 1) rfl rfl rfl rfl hl.1 (Nat.le_of_ble_eq_true rfl) dX1_divide_148 ⟨by decide, by decide⟩ (fun w1 H locs hp hP hD hS => ?_)
            obtain ⟨g2, cc, hw1, hh1, hh2, hh3, hh4⟩ := hp
            subst hw1
            have hP := hP.sub (ws' := [(dv, .inr (1, [.ref (dd), .ref (ds)])), (dd, aI cI (97) (g2)), (ds, aI cI (97) (v)), (a, .inr (9, [.ref (aw), .int (iZ (((n : Nat) : Int)))])), (aw, aI cI (ra) (gq)), (b, .inr (9, [.ref (bw), .int (iZ (((k : Nat) : Int)))])), (bw, aI cI (rb) (e)), (r, .inr (9, [.ref (rw), .int (iZ (cr))])), (rw, aI cI (rr) (gr0))]) [6, 7, 8, 0, 1, 2, 3, 4, 5] rfl
            have hD := hD.sub (ws' := [(dv, .inr (1, [.ref (dd), .ref (ds)])), (dd, aI cI (97) (g2)), (ds, aI cI (97) (v)), (a, .inr (9, [.ref (aw), .int (iZ (((n : Nat) : Int)))])), (aw, aI cI (ra) (gq)), (b, .inr (9, [.ref (bw), .int (iZ (((k : Nat) : Int)))])), (bw, aI cI (rb) (e)), (r, .inr (9, [.ref (rw), .int (iZ (cr))])), (rw, aI cI (rr) (gr0))]) [6, 7, 8, 0, 1, 2, 3, 4, 5] (by decide) rfl
            have f4 : bg_val (fun j => g1 (t + j)) (k + 1) = bg_val (fun j => u (t + j)) (k + 1) - z * bg_val v k + bg_p (k + 1) := by rcases hg3 with ⟨_, q2⟩ | ⟨q1, _⟩; (exact q2); (omega)
            have f6 := bg_val_nn (bg_win_dg hh1 (show t + (k + 1) ≤ n + 1 by omega))
            have f7 := bg_val_lt (bg_win_dg hh1 (show t + (k + 1) ≤ n + 1 by omega))
            have f8 : (z - 1) * bg_val v k = z * bg_val v k - bg_val v k := by rw [Int.sub_mul, Int.one_mul]
            have f9 : bg_p (k + 1) = 2147483648 * bg_p k := bg_ps k
            have f10 := bg_p_pos k
            have hz9 : 1 ≤ z := by
              rcases (show z = 0 ∨ 1 ≤ z by omega) with w9 | w9
              · rw [w9, Int.zero_mul] at f4; omega
              · exact w9
            have f11 : cc = 1 := by
              rcases (show cc = 0 ∨ cc = 1 by omega) with w9 | w9
              · rw [w9, Int.zero_mul] at hh4; omega
              · exact w9
            rw [f11, Int.one_mul] at hh4
            exact jn (z - 1) g2 H locs ls ⟨by omega, by omega⟩ hh1 (fun j hj => by rw [hh2 j hj]; exact hg2 j hj) ⟨by omega, by omega⟩ (by omega) hP hD hS (lv_sub hl [0, 1, 2, 3, 4, 5, 6, 7, 8, 9] rfl)
    refine lv_iload hx hb dX1_divide_106 (lv_at hl 1 rfl) ?_
    refine lv_iconst (v := iZ 1) hx hb dX1_divide_108 rfl ?_
    refine zr_isub hx hb dX1_divide_109 ?_
    refine zr_eqi (((n + 1 - k : Nat) : Int) - 1) (by omega) ?_
    refine lv_istore (lv' := [(8, .int (iZ (((n + 1 - k : Nat) : Int) - 1))), (7, .int (iZ (((sh : Nat) : Int)))), (6, .int (iZ (((((n : Nat) : Int)) - (((k : Nat) : Int))) + (1)))), (5, .int (iZ (((k : Nat) : Int)))), (0, .ref (dv)), (1, .ref (a)), (2, .ref (b)), (3, .ref (a)), (4, .ref (r))]) hx hb dX1_divide_110 hl (by decide) rfl (fun ls hl => ?_)
    exact lp (n + 1 - k) u d H locs ls (Nat.le_refl _) hu (fun j q1 q2 => absurd q1 (by omega)) (by rw [Nat.sub_self, bg_v0, Int.zero_mul, Int.zero_mul, Int.zero_add, show n + 1 - k + k = n + 1 by omega, huv, h1.2.2.2]) hR0 hP hD hS (lv_sub hl [0, 1, 2, 3, 4, 5, 6, 7, 8] rfl)
  refine lv_aload_n hx hb dX1_divide_0 rfl (lv_at hl 2 rfl) ?_
  refine va_getN (D := D) (ci := 9) (v := .int (iZ (((k : Nat) : Int)))) (C := RX9) (T := TX9) (N := 2) hx hb hts hin9 hown hK hP 5 rfl rfl 1 (by decide) (hN.F 6 rfl) (fun _ h9 => h9) rfl dX1_divide_1 ?_
  refine lv_istore (lv' := [(5, .int (iZ (((k : Nat) : Int)))), (0, .ref (dv)), (1, .ref (a)), (2, .ref (b)), (3, .ref (a)), (4, .ref (r))]) hx hb dX1_divide_4 hl (by decide) rfl (fun ls hl => ?_)
  refine lv_aload_n hx hb dX1_divide_6 rfl (lv_at hl 2 rfl) ?_
  refine va_getN (D := D) (ci := 9) (v := .int (iZ (((n : Nat) : Int)))) (C := RX9) (T := TX9) (N := 2) hx hb hts hin9 hown hK hP 3 rfl rfl 1 (by decide) (hN.F 6 rfl) (fun _ h9 => h9) rfl dX1_divide_7 ?_
  refine lv_iload hx hb dX1_divide_10 (lv_at hl 0 rfl) ?_
  refine zr_isub hx hb dX1_divide_12 ?_
  refine lv_iconst (v := iZ 1) hx hb dX1_divide_13 rfl ?_
  refine zr_iadd hx hb dX1_divide_14 ?_
  refine lv_istore (lv' := [(6, .int (iZ (((((n : Nat) : Int)) - (((k : Nat) : Int))) + (1)))), (5, .int (iZ (((k : Nat) : Int)))), (0, .ref (dv)), (1, .ref (a)), (2, .ref (b)), (3, .ref (a)), (4, .ref (r))]) hx hb dX1_divide_15 hl (by decide) rfl (fun ls hl => ?_)
  refine lv_iload hx hb dX1_divide_17 (lv_at hl 1 rfl) ?_
  refine zr_if_eq hx hb 55 ⟨by omega, by omega⟩ dX1_divide_19 (by decide) (fun h_19 => ?_) (fun h_19 => ?_)
  · exfalso; omega
  · refine lv_aload_n hx hb dX1_divide_22 rfl (lv_at hl 3 rfl) ?_
    refine va_getN (D := D) (ci := 9) (v := .int (iZ (((n : Nat) : Int)))) (C := RX9) (T := TX9) (N := 2) hx hb hts hin9 hown hK hP 3 rfl rfl 1 (by decide) (hN.F 6 rfl) (fun _ h9 => h9) rfl dX1_divide_23 ?_
    refine lv_aload_n hx hb dX1_divide_26 rfl (lv_at hl 2 rfl) ?_
    refine va_get (D := D) (ci := 1) (v := .ref (dd)) (C := RX1) (T := TX1) (N := 2) hx hb hts hin1 hown hK hP 0 rfl rfl 0 (by decide) q_f_RX1_9_Division_dividend_I (fun _ h9 => h9) rfl dX1_divide_27 ?_
    refine zr_alen hx hb hK hP 1 0 rfl rfl dX1_divide_30 ?_
    refine zr_icmp_ge hx hb 55 ⟨by omega, by omega⟩ ⟨by omega, by omega⟩ dX1_divide_31 (by decide) (fun h_31 => ?_) (fun h_31 => ?_)
    · exfalso; omega
    · refine lv_iload hx hb dX1_divide_34 (lv_at hl 1 rfl) ?_
      refine lv_aload hx hb dX1_divide_36 (lv_at hl 6 rfl) ?_
      refine va_getN (D := D) (ci := 9) (v := .ref (rw)) (C := RX9) (T := TX9) (N := 2) hx hb hts hin9 hown hK hP 7 rfl rfl 0 (by decide) (hN.F 4 rfl) (fun _ h9 => h9) rfl dX1_divide_38 ?_
      refine zr_alen hx hb hK hP 8 0 rfl rfl dX1_divide_41 ?_
      refine zr_icmp_gt hx hb 55 ⟨by omega, by omega⟩ ⟨by omega, by omega⟩ dX1_divide_42 (by decide) (fun h_42 => ?_) (fun h_42 => ?_)
      · exfalso; omega
      · refine lv_iload hx hb dX1_divide_45 (lv_at hl 0 rfl) ?_
        refine lv_aload_n hx hb dX1_divide_47 rfl (lv_at hl 5 rfl) ?_
        refine va_getN (D := D) (ci := 9) (v := .ref (aw)) (C := RX9) (T := TX9) (N := 2) hx hb hts hin9 hown hK hP 3 rfl rfl 0 (by decide) (hN.F 4 rfl) (fun _ h9 => h9) rfl dX1_divide_48 ?_
        refine zr_alen hx hb hK hP 4 0 rfl rfl dX1_divide_51 ?_
        refine zr_icmp_le hx hb 56 ⟨by omega, by omega⟩ ⟨by omega, by omega⟩ dX1_divide_52 (by decide) (fun h_52 => ?_) (fun h_52 => ?_)
        · refine lv_iload hx hb dX1_divide_56 (lv_at hl 0 rfl) ?_
          refine zr_if_gt hx hb 72 ⟨by omega, by omega⟩ dX1_divide_58 (by decide) (fun h_58 => ?_) (fun h_58 => ?_)
          · have bt := h2.2.1 (k - 1) (by omega)
            have bt2 := h2.2.2.1 (by omega)
            refine lv_aload_n hx hb dX1_divide_72 rfl (lv_at hl 4 rfl) ?_
            refine va_getN (D := D) (ci := 9) (v := .ref (bw)) (C := RX9) (T := TX9) (N := 2) hx hb hts hin9 hown hK hP 5 rfl rfl 0 (by decide) (hN.F 4 rfl) (fun _ h9 => h9) rfl dX1_divide_73 ?_
            refine lv_iload hx hb dX1_divide_76 (lv_at hl 1 rfl) ?_
            refine lv_iconst (v := iZ 1) hx hb dX1_divide_78 rfl ?_
            refine zr_isub hx hb dX1_divide_79 ?_
            refine zr_iald hx hb hK hP 6 0 rfl rfl (k - 1) (by omega) (by omega) (by omega) dX1_divide_80 ?_
            refine zc_SNi (As := [.int (iZ ((e) (k - 1)))]) (rest := []) (wr := [(dv, .inr (1, [.ref (dd), .ref (ds)])), (dd, aI cI (97) (u0)), (ds, aI cI (97) (v0)), (a, .inr (9, [.ref (aw), .int (iZ (((n : Nat) : Int)))])), (aw, aI cI (ra) (d)), (b, .inr (9, [.ref (bw), .int (iZ (((k : Nat) : Int)))])), (bw, aI cI (rb) (e)), (r, .inr (9, [.ref (rw), .int (iZ (cr))])), (rw, aI cI (rr) (gr0))]) ⟨hx, hb, hml, hown, hts⟩ (c_spareBits l D cI cJ cE cF cR (e (k - 1)) ⟨by omega, by omega⟩) ⟨va_cnB 1 hts gX1_divide_X10_spareBits_n34 rfl rfl rfl (hN.M 2 rfl) q_initialized_RX10 (by decide +kernel) ⟨Nat.le_of_ble_eq_true rfl, Nat.le_of_ble_eq_true rfl⟩, q_static_yX10_spareBits, trivial⟩ hN hK hP hD hS hA [] [0, 1, 2, 3, 4, 5, 6, 7, 8] rfl rfl (by decide) (by decide) (by decide) rfl hl.1 (Nat.le_of_ble_eq_true rfl) dX1_divide_81 ⟨by decide, by decide⟩ (fun z81 w1 H locs hz81 hp hP hD hS => ?_)
            obtain ⟨hw1, sh, hq, hsh, hsh2, hsh3⟩ := hp
            subst hw1
            subst hq
            have hP := hP.sub (ws' := [(dv, .inr (1, [.ref (dd), .ref (ds)])), (dd, aI cI (97) (u0)), (ds, aI cI (97) (v0)), (a, .inr (9, [.ref (aw), .int (iZ (((n : Nat) : Int)))])), (aw, aI cI (ra) (d)), (b, .inr (9, [.ref (bw), .int (iZ (((k : Nat) : Int)))])), (bw, aI cI (rb) (e)), (r, .inr (9, [.ref (rw), .int (iZ (cr))])), (rw, aI cI (rr) (gr0))]) [0, 1, 2, 3, 4, 5, 6, 7, 8] rfl
            have hD := hD.sub (ws' := [(dv, .inr (1, [.ref (dd), .ref (ds)])), (dd, aI cI (97) (u0)), (ds, aI cI (97) (v0)), (a, .inr (9, [.ref (aw), .int (iZ (((n : Nat) : Int)))])), (aw, aI cI (ra) (d)), (b, .inr (9, [.ref (bw), .int (iZ (((k : Nat) : Int)))])), (bw, aI cI (rb) (e)), (r, .inr (9, [.ref (rw), .int (iZ (cr))])), (rw, aI cI (rr) (gr0))]) [0, 1, 2, 3, 4, 5, 6, 7, 8] (by decide) rfl
            refine lv_istore (lv' := [(7, .int (iZ (((sh : Nat) : Int)))), (6, .int (iZ (((((n : Nat) : Int)) - (((k : Nat) : Int))) + (1)))), (5, .int (iZ (((k : Nat) : Int)))), (0, .ref (dv)), (1, .ref (a)), (2, .ref (b)), (3, .ref (a)), (4, .ref (r))]) hx hb dX1_divide_84 hl (by decide) rfl (fun ls hl => ?_)
            refine lv_aload_n hx hb dX1_divide_86 rfl (lv_at hl 4 rfl) ?_
            refine lv_iload hx hb dX1_divide_87 (lv_at hl 0 rfl) ?_
            refine lv_aload_n hx hb dX1_divide_89 rfl (lv_at hl 3 rfl) ?_
            refine va_get (D := D) (ci := 1) (v := .ref (dd)) (C := RX1) (T := TX1) (N := 2) hx hb hts hin1 hown hK hP 0 rfl rfl 0 (by decide) q_f_RX1_9_Division_dividend_I (fun _ h9 => h9) rfl dX1_divide_90 ?_
            refine zc_Sv (As := [.ref (a), .int (iZ (((sh : Nat) : Int))), .ref (dd)]) (rest := []) (wr := [(dv, .inr (1, [.ref (dd), .ref (ds)])), (ds, aI cI (97) (v0)), (b, .inr (9, [.ref (bw), .int (iZ (((k : Nat) : Int)))])), (bw, aI cI (rb) (e)), (r, .inr (9, [.ref (rw), .int (iZ (cr))])), (rw, aI cI (rr) (gr0))]) ⟨hx, hb, hml, hown, hts⟩ (c_shiftUp l D cI cJ cE cF cR a aw dd ra 97 n sh d u0 v1 h1 hsh hn hra (by decide)) (va_cwS 3 hts gX1_divide_X1_shiftUp rfl rfl rfl (by decide +kernel) ⟨Nat.le_of_ble_eq_true rfl, Nat.le_of_ble_eq_true rfl⟩) hN hK hP hD hS hA [3, 4, 1] [0, 2, 5, 6, 7, 8] rfl rfl (by decide) (by decide) (by decide) rfl hl.1 (Nat.le_of_ble_eq_true rfl) dX1_divide_93 ⟨by decide, by decide⟩ (fun w1 H locs hp hP hD hS => ?_)
            obtain ⟨u, hw1, hu, huv⟩ := hp
            subst hw1
            have hP := hP.sub (ws' := [(dv, .inr (1, [.ref (dd), .ref (ds)])), (dd, aI cI (97) (u)), (ds, aI cI (97) (v0)), (a, .inr (9, [.ref (aw), .int (iZ (((n : Nat) : Int)))])), (aw, aI cI (ra) (d)), (b, .inr (9, [.ref (bw), .int (iZ (((k : Nat) : Int)))])), (bw, aI cI (rb) (e)), (r, .inr (9, [.ref (rw), .int (iZ (cr))])), (rw, aI cI (rr) (gr0))]) [0, 8, 1, 6, 7, 2, 3, 4, 5] rfl
            have hD := hD.sub (ws' := [(dv, .inr (1, [.ref (dd), .ref (ds)])), (dd, aI cI (97) (u)), (ds, aI cI (97) (v0)), (a, .inr (9, [.ref (aw), .int (iZ (((n : Nat) : Int)))])), (aw, aI cI (ra) (d)), (b, .inr (9, [.ref (bw), .int (iZ (((k : Nat) : Int)))])), (bw, aI cI (rb) (e)), (r, .inr (9, [.ref (rw), .int (iZ (cr))])), (rw, aI cI (rr) (gr0))]) [0, 8, 1, 6, 7, 2, 3, 4, 5] (by decide) rfl
            refine lv_aload_n hx hb dX1_divide_96 rfl (lv_at hl 5 rfl) ?_
            refine lv_iload hx hb dX1_divide_97 (lv_at hl 0 rfl) ?_
            refine lv_aload_n hx hb dX1_divide_99 rfl (lv_at hl 3 rfl) ?_
            refine va_get (D := D) (ci := 1) (v := .ref (ds)) (C := RX1) (T := TX1) (N := 2) hx hb hts hin1 hown hK hP 0 rfl rfl 1 (by decide) q_f_RX1_15_Division_divisor_I (fun _ h9 => h9) rfl dX1_divide_100 ?_
            refine zc_Sv (As := [.ref (b), .int (iZ (((sh : Nat) : Int))), .ref (ds)]) (rest := []) (wr := [(dv, .inr (1, [.ref (dd), .ref (ds)])), (dd, aI cI (97) (u)), (a, .inr (9, [.ref (aw), .int (iZ (((n : Nat) : Int)))])), (aw, aI cI (ra) (d)), (r, .inr (9, [.ref (rw), .int (iZ (cr))])), (rw, aI cI (rr) (gr0))]) ⟨hx, hb, hml, hown, hts⟩ (c_shiftUp l D cI cJ cE cF cR b bw ds rb 97 k sh e v0 v2 h2 hsh (by omega) hrb (by decide)) (va_cwS 3 hts gX1_divide_X1_shiftUp rfl rfl rfl (by decide +kernel) ⟨Nat.le_of_ble_eq_true rfl, Nat.le_of_ble_eq_true rfl⟩) hN hK hP hD hS hA [5, 6, 2] [0, 1, 3, 4, 7, 8] rfl rfl (by decide) (by decide) (by decide) rfl hl.1 (Nat.le_of_ble_eq_true rfl) dX1_divide_103 ⟨by decide, by decide⟩ (fun w1 H locs hp hP hD hS => ?_)
            obtain ⟨v, hw1, hv, hvv⟩ := hp
            subst hw1
            have hvd := bg_dg_le hv (show k ≤ k + 1 by omega)
            have hnorm : bg_val v k = v2 * bg_t sh ∧ 1073741824 ≤ v (k - 1) := by
              obtain ⟨m, rfl⟩ : ∃ m, k = m + 1 := ⟨k - 1, by omega⟩
              exact kd_norm h2 hsh hsh2 hsh3 hv hvv
            have hP := hP.sub (ws' := [(dv, .inr (1, [.ref (dd), .ref (ds)])), (dd, aI cI (97) (u)), (ds, aI cI (97) (v)), (a, .inr (9, [.ref (aw), .int (iZ (((n : Nat) : Int)))])), (aw, aI cI (ra) (d)), (b, .inr (9, [.ref (bw), .int (iZ (((k : Nat) : Int)))])), (bw, aI cI (rb) (e)), (r, .inr (9, [.ref (rw), .int (iZ (cr))])), (rw, aI cI (rr) (gr0))]) [0, 1, 8, 2, 3, 6, 7, 4, 5] rfl
            have hD := hD.sub (ws' := [(dv, .inr (1, [.ref (dd), .ref (ds)])), (dd, aI cI (97) (u)), (ds, aI cI (97) (v)), (a, .inr (9, [.ref (aw), .int (iZ (((n : Nat) : Int)))])), (aw, aI cI (ra) (d)), (b, .inr (9, [.ref (bw), .int (iZ (((k : Nat) : Int)))])), (bw, aI cI (rb) (e)), (r, .inr (9, [.ref (rw), .int (iZ (cr))])), (rw, aI cI (rr) (gr0))]) [0, 1, 8, 2, 3, 6, 7, 4, 5] (by decide) rfl
            have hst : bg_val (fun j => u (n + 1 - k + j)) k < bg_val v k := by
              obtain ⟨m, rfl⟩ : ∃ m, k = m + 1 := ⟨k - 1, by omega⟩
              exact kd_start h1 hsh (by omega) hu huv hvd hnorm.2
            exact mn sh u v H locs ls hsh (by omega) hu huv hvd hnorm.1 hnorm.2 hst hP hD hS (lv_sub hl [0, 1, 2, 3, 4, 5, 6, 7] rfl)
          · refine lv_aload hx hb dX1_divide_61 (lv_at hl 6 rfl) ?_
            refine lv_aload_n hx hb dX1_divide_63 rfl (lv_at hl 3 rfl) ?_
            refine zc_Vv (As := [.ref (a)]) (rest := []) (wr := [(dv, .inr (1, [.ref (dd), .ref (ds)])), (dd, aI cI (97) (u0)), (ds, aI cI (97) (v0)), (b, .inr (9, [.ref (bw), .int (iZ (((k : Nat) : Int)))])), (bw, aI cI (rb) (e))]) ⟨hx, hb, hml, hown, hts⟩ (c_copyFrom l D cI cJ cE cF cR r rw a aw rr ra n cr gr0 d v1 h1 (by omega) hrr hra) (cwV 1 hts gX1_divide_X9_copyFrom rfl rfl rfl (by decide +kernel) ⟨Nat.le_of_ble_eq_true rfl, Nat.le_of_ble_eq_true rfl⟩) hN hK hP hD hS hA [7, 8, 3, 4] [0, 1, 2, 5, 6] rfl rfl (by decide) (by decide) (by decide) (q0 := 0) (ci := 9) rfl rfl rfl rfl hl.1 (Nat.le_of_ble_eq_true rfl) dX1_divide_64 ⟨by decide, by decide⟩ (fun w1 H locs hp hP hD hS => ?_)
            obtain ⟨gr, nr, hw1, hgr⟩ := hp
            subst hw1
            have hP := hP.sub (ws' := [(dv, .inr (1, [.ref (dd), .ref (ds)])), (dd, aI cI (97) (u0)), (ds, aI cI (97) (v0)), (a, .inr (9, [.ref (aw), .int (iZ (((n : Nat) : Int)))])), (aw, aI cI (ra) (d)), (b, .inr (9, [.ref (bw), .int (iZ (((k : Nat) : Int)))])), (bw, aI cI (rb) (e)), (r, .inr (9, [.ref (rw), .int (iZ (((nr : Nat) : Int)))])), (rw, aI cI (rr) (gr))]) [0, 1, 2, 7, 8, 3, 4, 5, 6] rfl
            have hD := hD.sub (ws' := [(dv, .inr (1, [.ref (dd), .ref (ds)])), (dd, aI cI (97) (u0)), (ds, aI cI (97) (v0)), (a, .inr (9, [.ref (aw), .int (iZ (((n : Nat) : Int)))])), (aw, aI cI (ra) (d)), (b, .inr (9, [.ref (bw), .int (iZ (((k : Nat) : Int)))])), (bw, aI cI (rb) (e)), (r, .inr (9, [.ref (rw), .int (iZ (((nr : Nat) : Int)))])), (rw, aI cI (rr) (gr))]) [0, 1, 2, 7, 8, 3, 4, 5, 6] (by decide) rfl
            refine lv_aload_n hx hb dX1_divide_67 rfl (lv_at hl 5 rfl) ?_
            refine zc_Vv (As := []) (rest := []) (wr := [(dv, .inr (1, [.ref (dd), .ref (ds)])), (dd, aI cI (97) (u0)), (ds, aI cI (97) (v0)), (aw, aI cI (ra) (d)), (b, .inr (9, [.ref (bw), .int (iZ (((k : Nat) : Int)))])), (bw, aI cI (rb) (e)), (r, .inr (9, [.ref (rw), .int (iZ (((nr : Nat) : Int)))])), (rw, aI cI (rr) (gr))]) ⟨hx, hb, hml, hown, hts⟩ (c_clear l D cI cJ cE cF cR a aw (((n : Nat) : Int))) (cwV 0 hts gX1_divide_X9_clear rfl rfl rfl (by decide +kernel) ⟨Nat.le_of_ble_eq_true rfl, Nat.le_of_ble_eq_true rfl⟩) hN hK hP hD hS hA [3] [0, 1, 2, 4, 5, 6, 7, 8] rfl rfl (by decide) (by decide) (by decide) (q0 := 0) (ci := 9) rfl rfl rfl rfl hl.1 (Nat.le_of_ble_eq_true rfl) dX1_divide_68 ⟨by decide, by decide⟩ (fun w1 H locs hp hP hD hS => ?_)
            obtain rfl : w1 = _ := hp
            have hP := hP.sub (ws' := [(dv, .inr (1, [.ref (dd), .ref (ds)])), (dd, aI cI (97) (u0)), (ds, aI cI (97) (v0)), (a, .inr (9, [.ref (aw), .int (iZ (0))])), (aw, aI cI (ra) (d)), (b, .inr (9, [.ref (bw), .int (iZ (((k : Nat) : Int)))])), (bw, aI cI (rb) (e)), (r, .inr (9, [.ref (rw), .int (iZ (((nr : Nat) : Int)))])), (rw, aI cI (rr) (gr))]) [0, 1, 2, 8, 3, 4, 5, 6, 7] rfl
            have hD := hD.sub (ws' := [(dv, .inr (1, [.ref (dd), .ref (ds)])), (dd, aI cI (97) (u0)), (ds, aI cI (97) (v0)), (a, .inr (9, [.ref (aw), .int (iZ (0))])), (aw, aI cI (ra) (d)), (b, .inr (9, [.ref (bw), .int (iZ (((k : Nat) : Int)))])), (bw, aI cI (rb) (e)), (r, .inr (9, [.ref (rw), .int (iZ (((nr : Nat) : Int)))])), (rw, aI cI (rr) (gr))]) [0, 1, 2, 8, 3, 4, 5, 6, 7] (by decide) rfl
            exact zr_vret hQ hx hb hr hlk dX1_divide_71 hK hP hD hS (by omega) (by omega) (by
  have f1 := bg_lt_cnt h1.2.1 h2.2.1 h2.2.2.1 (show n < k by omega)
  rw [h1.2.2.2, h2.2.2.2] at f1
  refine ⟨u0, v0, d, gr, 0, nr, rfl, ?_, ?_⟩
  · rw [Int.ediv_eq_zero_of_lt (bg_ok_nn h1) f1]; exact ⟨Nat.zero_le _, fun i hi => absurd hi (Nat.not_lt_zero i), fun q => absurd q (Nat.lt_irrefl 0), rfl⟩
  · rw [Int.emod_eq_of_lt (bg_ok_nn h1) f1]; exact hgr)
        · exfalso; omega
