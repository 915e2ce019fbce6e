
theorem pe_fl_un (V : Nat → Rat) : pe_fl (fun i j => V (7 * i + j)) = V := by
  funext q
  show V (7 * (q / 7) + q % 7) = V q
  rw [show 7 * (q / 7) + q % 7 = q by omega]
/-- the first q rows cleared by row r -/
def pe_clq (q n : Nat) (M : Nat → Nat → Rat) (r c i j : Nat) : Rat := if i < q ∧ i ≠ r ∧ j ≤ n then M i j - M i c / M r c * M r j else M i j
theorem pe_clq_0 (n : Nat) (M : Nat → Nat → Rat) (r c : Nat) : pe_clq 0 n M r c = M := by
  funext i j; unfold pe_clq; rw [if_neg (fun q => Nat.not_lt_zero i q.1)]
theorem pe_clq_r (q n : Nat) (M : Nat → Nat → Rat) (r c j : Nat) : pe_clq q n M r c r j = M r j := if_neg (fun h => h.2.1 rfl)
theorem pe_clq_k (q n : Nat) (M : Nat → Nat → Rat) (r c j : Nat) : pe_clq q n M r c q j = M q j := if_neg (fun h => Nat.lt_irrefl q h.1)
theorem pe_clq_s {q n r : Nat} (M : Nat → Nat → Rat) (c : Nat) (h : q ≠ r) : pe_clk (n + 1) (pe_clq q n M r c) q r c = pe_clq (q + 1) n M r c := by
  funext i j
  unfold pe_clk
  by_cases h1 : i = q
  · subst h1
    by_cases h2 : j < n + 1
    · rw [if_pos ⟨rfl, h2⟩, pe_clq_k, pe_clq_k, pe_clq_r, pe_clq_r]
      show _ = if i < i + 1 ∧ i ≠ r ∧ j ≤ n then _ else _
      rw [if_pos ⟨by omega, h, by omega⟩]
    · rw [if_neg (fun w => h2 w.2), pe_clq_k]
      show _ = if i < i + 1 ∧ i ≠ r ∧ j ≤ n then _ else _
      rw [if_neg (fun w => h2 (by omega))]
  · rw [if_neg (fun w => h1 w.1)]
    unfold pe_clq
    by_cases h2 : i < q ∧ i ≠ r ∧ j ≤ n
    · rw [if_pos h2, if_pos ⟨by omega, h2.2⟩]
    · rw [if_neg h2, if_neg (fun w => h2 ⟨by omega, w.2⟩)]
theorem pe_clq_e {n r : Nat} (M : Nat → Nat → Rat) (c : Nat) : pe_clq (r + 1) n M r c = pe_clq r n M r c := by
  funext i j
  unfold pe_clq
  by_cases h2 : i < r ∧ i ≠ r ∧ j ≤ n
  · rw [if_pos h2, if_pos ⟨by omega, h2.2⟩]
  · rw [if_neg h2, if_neg (fun w => h2 ⟨by omega, w.2⟩)]
theorem pe_clq_new {q n r j : Nat} (M : Nat → Nat → Rat) (c : Nat) (hq : q < n) (h : q ≠ r) (hj : j ≤ n) : pe_clq q n M r c q j - pe_clq q n M r c q c / pe_clq q n M r c r c * pe_clq q n M r c r j = pe_cl n M r c q j := by
  rw [pe_clq_k, pe_clq_k, pe_clq_r, pe_clq_r]
  unfold pe_cl
  rw [if_pos ⟨hq, h, hj⟩]
theorem pe_sw_same (n : Nat) (M : Nat → Nat → Rat) (r : Nat) : pe_sw n M r r = M := by
  funext i j
  unfold pe_sw
  by_cases h : i = r
  · rw [if_pos h, h]; split <;> rfl
  · rw [if_neg h, if_neg h]; split <;> rfl
theorem pe_y {V : Nat → Rat} {n c : Nat} (h : pe_row (pe V n c) n c < n) : pe V n (c + 1) = pe_u V n c (pe V n c) := pe_one_u h
theorem pe_n {V : Nat → Rat} {n c : Nat} (h : ¬ pe_row (pe V n c) n c < n) : pe V n (c + 1) = (peM (pe V n c), peR (pe V n c), peT (pe V n c), zu (peP (pe V n c)) c (-1), peH (pe V n c), peI (pe V n c), peE (pe V n c), peL (pe V n c), peC (pe V n c), peW (pe V n c), peK (pe V n c)) := if_neg h
theorem pe_Hs (V : Nat → Rat) (n c : Nat) : peH (pe V n c) ≤ peH (pe V n (c + 1)) := by
  by_cases h : pe_row (pe V n c) n c < n
  · rw [pe_y h]
    exact Nat.le_max_left _ _
  · rw [pe_n h]
    exact Nat.le_refl _
theorem pe_Hm (V : Nat → Rat) (n c : Nat) : ∀ k : Nat, peH (pe V n c) ≤ peH (pe V n (c + k)) := by
  intro k
  induction k with
  | zero => exact Nat.le_refl _
  | succ k ih => exact Nat.le_trans ih (pe_Hs V n (c + k))
/-- whether the rows r .. r + k - 1 have nothing at the right -/
def pe_svk (M : Nat → Nat → Rat) (n r : Nat) : Nat → Int
  | 0 => 1
  | k + 1 => if M (r + k) n = 0 then pe_svk M n r k else 0
theorem pe_svk01 (M : Nat → Nat → Rat) (n r : Nat) : ∀ k : Nat, pe_svk M n r k = 0 ∨ pe_svk M n r k = 1 := by
  intro k
  induction k with
  | zero => exact Or.inr rfl
  | succ k ih =>
    show (if M (r + k) n = 0 then pe_svk M n r k else 0) = 0 ∨ (if M (r + k) n = 0 then pe_svk M n r k else 0) = 1
    split
    · exact ih
    · exact Or.inl rfl
theorem pe_big : ((pe_B 6 * (7 * pe_B 6) : Nat) : Int) < hx_p 180 := by
  have h : pe_B 6 * (7 * pe_B 6) < 65536 ^ 180 := by decide +kernel
  have e : hx_p 180 = ((65536 ^ 180 : Nat) : Int) := by show (65536 : Int) ^ 180 = _; simp
  rw [e]
  exact Int.ofNat_lt.mpr h
theorem peV_b {V : Nat → Rat} {n c : Nat} {s : peS} (hT : pe_T V n) (hn : n ≤ 6) (h : peV V n c s) {i j : Nat} (hi : i < n) (hj : j ≤ n) : (((peM s i j).num.natAbs : Nat) : Int) < hx_p 180 ∧ (((peM s i j).den : Nat) : Int) < hx_p 180 := by
  have h1 := peV_M hT hn h hi hj
  have h2 := pe_big
  have h3 : pe_B 6 * pe_B 6 ≤ pe_B 6 * (7 * pe_B 6) := Nat.mul_le_mul_left _ (Nat.le_mul_of_pos_left _ (by decide))
  exact ⟨by omega, by omega⟩
theorem peV_db {V : Nat → Rat} {n : Nat} {s : peS} (hT : pe_T V n) (hn : n ≤ 6) (h : peV V n n s) (hr : peR s = n) {k : Nat} (hk : k ≤ n) : (((pe_dt (peM s) (peT s) k).num.natAbs : Nat) : Int) < hx_p 180 ∧ (((pe_dt (peM s) (peT s) k).den : Nat) : Int) < hx_p 180 := by
  have h1 := (peV_dt hT hn h hr k hk).2
  have h2 := pe_big
  have h3 : pe_B 6 ≤ pe_B 6 * (7 * pe_B 6) := Nat.le_mul_of_pos_right _ (Nat.mul_pos (by decide) (pe_B_pos 6))
  exact ⟨by omega, by omega⟩
theorem pe_tn {F Ln Sg G L1 : Nat → Int} {t : Int} (ht : t = 1 ∨ t = -1) (h0 : md_f F Ln Sg 84 0) (hw : md_w F Ln G L1 168 1) : md_f G L1 (zu Sg 84 t) 84 ((t : Int) : Rat) := by
  refine ⟨?_, ?_, ?_⟩
  · rw [zu_s]; rcases ht with q | q <;> rw [q] <;> rfl
  · have e : ((((t : Int) : Rat).num.natAbs : Nat) : Int) = 1 := by rcases ht with q | q <;> rw [q] <;> rfl
    rw [e]; exact hw.2
  · have e : ((((t : Int) : Rat).den : Nat) : Int) = 1 := rfl
    rw [e]
    have h1 : md_n F Ln (2 * 84 + 1) (((0 : Rat).den : Nat) : Int) := h0.2.2
    exact (hw.1 _ (by decide) (by decide)).n h1
/-- what the reference holds when it is done -/
def md_D (nn : Nat) (s : peS) (F Ln Sg PR : Nat → Int) (sv rk ms : Int) : Prop := md_A F Ln Sg 42 (pe_fl (peM s)) ∧ md_f F Ln Sg 84 (if peR s = nn then pe_dt (peM s) (peT s) nn else 0) ∧ sv = pe_svk (peM s) nn (peR s) (nn - peR s) ∧ rk = ((peR s : Nat) : Int) ∧ ms = ((peH s : Nat) : Int) ∧ ∀ j : Nat, j < nn → PR j = peP s j
set_option maxHeartbeats 4000000 in
set_option maxRecDepth 100000 in
/-- Model.eliminate, refused -/
theorem c_elim0 (l : Launch) (D : va_G) (cI cJ cE cF cR : ClassId) (mo fg le sg tp bl pr rs nn : Nat) (dn sv rk tn ms th : Int) (cp : Int) (hcp : iR cp) (hbad : cp < 0 ∨ 40000 < cp) : Ci l D (zty cI cJ cE cF cR) yX11_eliminate wsX11_eliminate (zRm 0 0) 0 0 [.ref (mo), .int (iZ (cp))] [(mo, mo_ fg le sg tp bl pr rs (((nn : Nat) : Int)) (dn) (sv) (rk) (tn) (ms) (th))] (fun r w1 => w1 = [(mo, mo_ fg le sg tp bl pr rs (((nn : Nat) : Int)) (dn) (sv) (rk) (tn) (ms) (1))] ∧ r = 0) := by
  unfold Ci
  refine zs (Qc := zQi D _ _) (cc := cX11_eliminate) (maxL := 5) (ret := (some .int)) (by decide) rfl (Nat.le_of_ble_eq_true rfl) ?_
  intro zp ze s zm below meth zc ls A args Q hQ hx hb hr hts hown hlk hml hnm hN hA hK hP hD hS hl
  have q_f_RX11_40_LimbSolverModel_thrown_I := hts (.fieldLink RX11 40 "LimbSolverModel" "thrown" "I") (by decide +kernel)
  have hin11 : ∀ w ∈ wsX110, w ∈ wsX11_eliminate := by decide +kernel
  have q_constant_RX11_135_40000 := hts (.constant RX11 135 (40000)) (by decide +kernel)
  have hl : lv_has ls 5 [(0, .ref (mo)), (1, .int (iZ (cp)))] := hl
  have hcp1 := hcp.1
  have hcp2 := hcp.2
  refine lv_aload_n hx hb dX11_eliminate_0 rfl (lv_at hl 0 rfl) ?_
  refine lv_iload_n hx hb dX11_eliminate_1 rfl (lv_at hl 1 rfl) ?_
  refine zr_if_lt hx hb 11 hcp dX11_eliminate_2 (by decide) (fun h_2 => ?_) (fun h_2 => ?_)
  · refine lv_iconst (v := iZ 1) hx hb dX11_eliminate_11 rfl ?_
    refine lv_goto (tgt := 16) hx hb dX11_eliminate_12 (by decide) ?_
    refine va_put (D := D) (ci := 11) (v := .int (iZ (1))) (ty := tyX11 12) (C := RX11) (T := TX11) (N := 14) hx hb hts hin11 tyX11 tyX11_ok nmX11 hown hK hP hD hS 0 rfl rfl 12 (by decide) q_f_RX11_40_LimbSolverModel_thrown_I (fun _ h9 => h9) rfl (tyX11_ok 12 (by decide)) rfl rfl (Nat.le_of_ble_eq_true rfl) dX11_eliminate_16 (fun H locs hP hD hS => ?_)
    have hP : va_P D vwCl [(mo, mo_ fg le sg tp bl pr rs (((nn : Nat) : Int)) (dn) (sv) (rk) (tn) (ms) (1))] H := hP
    have hD : va_D A [(mo, mo_ fg le sg tp bl pr rs (((nn : Nat) : Int)) (dn) (sv) (rk) (tn) (ms) (1))] := hD
    refine lv_aload_n hx hb dX11_eliminate_19 rfl (lv_at hl 0 rfl) ?_
    refine va_get (D := D) (ci := 11) (v := .int (iZ (1))) (C := RX11) (T := TX11) (N := 14) hx hb hts hin11 hown hK hP 0 rfl rfl 12 (by decide) q_f_RX11_40_LimbSolverModel_thrown_I (fun _ h9 => h9) rfl dX11_eliminate_20 ?_
    refine zr_if_le hx hb 28 ⟨by omega, by omega⟩ dX11_eliminate_23 (by decide) (fun h_23 => ?_) (fun h_23 => ?_)
    · exfalso; omega
    · refine lv_iconst (v := iZ 0) hx hb dX11_eliminate_26 rfl ?_
      exact zr_iret hQ hx hb hr hlk dX11_eliminate_27 hK hP hD hS (by omega) (by omega) ⟨by omega, by omega⟩ (⟨rfl, rfl⟩)
  · refine lv_iload_n hx hb dX11_eliminate_5 rfl (lv_at hl 1 rfl) ?_
    refine zr_ldc hx hb 40000 (by decide) hown q_constant_RX11_135_40000 dX11_eliminate_6 ?_
    refine zr_icmp_le hx hb 15 hcp (by decide) dX11_eliminate_8 (by decide) (fun h_8 => ?_) (fun h_8 => ?_)
    · exfalso; omega
    · refine lv_iconst (v := iZ 1) hx hb dX11_eliminate_11 rfl ?_
      refine lv_goto (tgt := 16) hx hb dX11_eliminate_12 (by decide) ?_
      refine va_put (D := D) (ci := 11) (v := .int (iZ (1))) (ty := tyX11 12) (C := RX11) (T := TX11) (N := 14) hx hb hts hin11 tyX11 tyX11_ok nmX11 hown hK hP hD hS 0 rfl rfl 12 (by decide) q_f_RX11_40_LimbSolverModel_thrown_I (fun _ h9 => h9) rfl (tyX11_ok 12 (by decide)) rfl rfl (Nat.le_of_ble_eq_true rfl) dX11_eliminate_16 (fun H locs hP hD hS => ?_)
      have hP : va_P D vwCl [(mo, mo_ fg le sg tp bl pr rs (((nn : Nat) : Int)) (dn) (sv) (rk) (tn) (ms) (1))] H := hP
      have hD : va_D A [(mo, mo_ fg le sg tp bl pr rs (((nn : Nat) : Int)) (dn) (sv) (rk) (tn) (ms) (1))] := hD
      refine lv_aload_n hx hb dX11_eliminate_19 rfl (lv_at hl 0 rfl) ?_
      refine va_get (D := D) (ci := 11) (v := .int (iZ (1))) (C := RX11) (T := TX11) (N := 14) hx hb hts hin11 hown hK hP 0 rfl rfl 12 (by decide) q_f_RX11_40_LimbSolverModel_thrown_I (fun _ h9 => h9) rfl dX11_eliminate_20 ?_
      refine zr_if_le hx hb 28 ⟨by omega, by omega⟩ dX11_eliminate_23 (by decide) (fun h_23 => ?_) (fun h_23 => ?_)
      · exfalso; omega
      · refine lv_iconst (v := iZ 0) hx hb dX11_eliminate_26 rfl ?_
        exact zr_iret hQ hx hb hr hlk dX11_eliminate_27 hK hP hD hS (by omega) (by omega) ⟨by omega, by omega⟩ (⟨rfl, rfl⟩)

set_option maxHeartbeats 4000000 in
set_option maxRecDepth 100000 in
/-- Model.eliminate -/
theorem c_elim1 (l : Launch) (D : va_G) (cI cJ cE cF cR : ClassId) (mo fg le sg tp bl pr rs nn : Nat) (dn sv rk tn ms th : Int) (cp : Int) (F Ln Sg T0 B0 PR : Nat → Int) (V : Nat → Rat) (hcl : 0 ≤ cp ∧ cp ≤ 40000) (h1n : 1 ≤ nn) (hn : nn ≤ 6) (hT : pe_T V nn) (hAA : md_A F Ln Sg 0 V) : Ci l D (zty cI cJ cE cF cR) yX11_eliminate wsX11_eliminate (zRm 9 290) 0 0 [.ref (mo), .int (iZ (cp))] [(mo, mo_ fg le sg tp bl pr rs (((nn : Nat) : Int)) (dn) (sv) (rk) (tn) (ms) (th)), (fg, aI cI (52200) (F)), (le, aI cI (190) (Ln)), (sg, aI cI (90) (Sg)), (tp, aI cI (1300) (T0)), (bl, aI cI (1300) (B0)), (pr, aI cI (6) (PR))] (fun r w1 => ∃ (G L1 S1 T1 B1 P1 : Nat → Int) (d1 v1 r1 t1 m1 : Int), w1 = [(mo, mo_ fg le sg tp bl pr rs (((nn : Nat) : Int)) (d1) (v1) (r1) (t1) (m1) (0)), (fg, aI cI (52200) (G)), (le, aI cI (190) (L1)), (sg, aI cI (90) (S1)), (tp, aI cI (1300) (T1)), (bl, aI cI (1300) (B1)), (pr, aI cI (6) (P1))] ∧ (∀ g : Nat, g < 90 → g < 42 → md_ef F Ln Sg G L1 S1 g) ∧ ((((peH (pe V nn nn) : Nat) : Int) ≤ cp ∧ r = ((peR (pe V nn nn) : Nat) : Int) ∧ d1 = 1 ∧ md_D nn (pe V nn nn) G L1 S1 P1 v1 r1 m1) ∨ (cp < ((peH (pe V nn nn) : Nat) : Int) ∧ r = -1 ∧ d1 = 0))) := by
  unfold Ci
  refine zs (Qc := zQi D _ _) (cc := cX11_eliminate) (maxL := 5) (ret := (some .int)) (by decide) rfl (Nat.le_of_ble_eq_true rfl) ?_
  intro zp ze s zm below meth zc ls A args Q hQ hx hb hr hts hown hlk hml hnm hN hA hK hP hD hS hl
  have q_f_RX11_26_LimbSolverModel_n_I := hts (.fieldLink RX11 26 "LimbSolverModel" "n" "I") (by decide +kernel)
  have hin11 : ∀ w ∈ wsX110, w ∈ wsX11_eliminate := by decide +kernel
  have q_f_RX11_136_LimbSolverModel_rank_I := hts (.fieldLink RX11 136 "LimbSolverModel" "rank" "I") (by decide +kernel)
  have q_f_RX11_17_LimbSolverModel_sign_I := hts (.fieldLink RX11 17 "LimbSolverModel" "sign" "[I") (by decide +kernel)
  have q_f_RX11_139_LimbSolverModel_turns_I := hts (.fieldLink RX11 139 "LimbSolverModel" "turns" "I") (by decide +kernel)
  have q_f_RX11_151_LimbSolverModel_solvable_Z := hts (.fieldLink RX11 151 "LimbSolverModel" "solvable" "Z") (by decide +kernel)
  have q_f_RX11_109_LimbSolverModel_done_Z := hts (.fieldLink RX11 109 "LimbSolverModel" "done" "Z") (by decide +kernel)
  have q_f_RX11_142_LimbSolverModel_most_I := hts (.fieldLink RX11 142 "LimbSolverModel" "most" "I") (by decide +kernel)
  have q_constant_RX11_135_40000 := hts (.constant RX11 135 (40000)) (by decide +kernel)
  have q_f_RX11_40_LimbSolverModel_thrown_I := hts (.fieldLink RX11 40 "LimbSolverModel" "thrown" "I") (by decide +kernel)
  have q_f_RX11_30_LimbSolverModel_pivotRow_I := hts (.fieldLink RX11 30 "LimbSolverModel" "pivotRow" "[I") (by decide +kernel)
  have hl : lv_has ls 5 [(0, .ref (mo)), (1, .int (iZ (cp)))] := hl
  have hcp9 : iR cp := ⟨by omega, by omega⟩
  obtain ⟨s9, hs9⟩ : ∃ s9 : peS, s9 = pe V nn nn := ⟨_, rfl⟩
  have hV9 : peV V nn nn s9 := by rw [hs9]; exact pe_ok hT h1n hn nn (Nat.le_refl nn)
  have hr9 : peR s9 ≤ nn := hV9.1.2.1
  have hm9 : peR s9 ≤ 6 := Nat.le_trans hr9 hn
  have dlp : ∀ (t : Nat) (j : Nat) (G : Nat → Int) (L1 : Nat → Int) (S1 : Nat → Int) (T1 : Nat → Int) (B1 : Nat → Int) (P1 : Nat → Int) (H : Heap) (locs : List Loc) (ls : Array Slot), (j + t = nn) → (∀ g : Nat, g < 90 → g < 42 → md_ef F Ln Sg G L1 S1 g) → (md_A G L1 S1 42 (pe_fl (peM s9))) → (∀ j : Nat, j < nn → P1 j = peP s9 j) → (((peH s9 : Nat) : Int) ≤ cp) → (peR s9 = nn) → (md_f G L1 S1 84 (pe_dt (peM s9) (peT s9) j)) →  va_P D vwCl [(mo, mo_ fg le sg tp bl pr rs (((nn : Nat) : Int)) (1) (pe_svk (peM s9) nn (peR s9) (nn - peR s9)) (((peR s9 : Nat) : Int)) (peT s9) (((peH s9 : Nat) : Int)) (0)), (fg, aI cI (52200) (G)), (le, aI cI (190) (L1)), (sg, aI cI (90) (S1)), (tp, aI cI (1300) (T1)), (bl, aI cI (1300) (B1)), (pr, aI cI (6) (P1))] H → va_D A [(mo, mo_ fg le sg tp bl pr rs (((nn : Nat) : Int)) (1) (pe_svk (peM s9) nn (peR s9) (nn - peR s9)) (((peR s9 : Nat) : Int)) (peT s9) (((peH s9 : Nat) : Int)) (0)), (fg, aI cI (52200) (G)), (le, aI cI (190) (L1)), (sg, aI cI (90) (S1)), (tp, aI cI (1300) (T1)), (bl, aI cI (1300) (B1)), (pr, aI cI (6) (P1))] → va_S A s.heap H locs → lv_has ls 5 [(2, .int (iZ (((j : Nat) : Int)))), (0, .ref (mo)), (1, .int (iZ (cp)))] → W zp l ze (zRm 9 290) s zm args below meth zc H locs 0 0 Q (F0 zm 379 ls []) := by
    intro t
    induction t with
    | zero =>
      intro j G L1 S1 T1 B1 P1 H locs ls hjt hke hMc hPR hcap hrn hdt hP hD hS hl
      refine lv_iload_n hx hb dX11_eliminate_379 rfl (lv_at hl 0 rfl) ?_
      refine lv_aload_n hx hb dX11_eliminate_380 rfl (lv_at hl 1 rfl) ?_
      refine va_get (D := D) (ci := 11) (v := .int (iZ (((nn : Nat) : Int)))) (C := RX11) (T := TX11) (N := 14) hx hb hts hin11 hown hK hP 0 rfl rfl 5 (by decide) q_f_RX11_26_LimbSolverModel_n_I (fun _ h9 => h9) rfl dX11_eliminate_381 ?_
      refine zr_icmp_ge hx hb 417 ⟨by omega, by omega⟩ ⟨by omega, by omega⟩ dX11_eliminate_384 (by decide) (fun h_384 => ?_) (fun h_384 => ?_)
      · refine lv_aload_n hx hb dX11_eliminate_417 rfl (lv_at hl 1 rfl) ?_
        refine va_get (D := D) (ci := 11) (v := .int (iZ (((peR s9 : Nat) : Int)))) (C := RX11) (T := TX11) (N := 14) hx hb hts hin11 hown hK hP 0 rfl rfl 8 (by decide) q_f_RX11_136_LimbSolverModel_rank_I (fun _ h9 => h9) rfl dX11_eliminate_418 ?_
        exact zr_iret hQ hx hb hr hlk dX11_eliminate_421 hK hP hD hS (by omega) (by omega) ⟨by omega, by omega⟩ (by rw [← hs9]; exact ⟨G, L1, S1, T1, B1, P1, 1, _, _, _, _, rfl, hke, Or.inl ⟨hcap, rfl, rfl, hMc, by rw [if_pos hrn, ← show j = nn by omega]; exact hdt, rfl, rfl, rfl, hPR⟩⟩)
      · exfalso; omega
    | succ t ih =>
      intro j G L1 S1 T1 B1 P1 H locs ls hjt hke hMc hPR hcap hrn hdt hP hD hS hl
      refine lv_iload_n hx hb dX11_eliminate_379 rfl (lv_at hl 0 rfl) ?_
      refine lv_aload_n hx hb dX11_eliminate_380 rfl (lv_at hl 1 rfl) ?_
      refine va_get (D := D) (ci := 11) (v := .int (iZ (((nn : Nat) : Int)))) (C := RX11) (T := TX11) (N := 14) hx hb hts hin11 hown hK hP 0 rfl rfl 5 (by decide) q_f_RX11_26_LimbSolverModel_n_I (fun _ h9 => h9) rfl dX11_eliminate_381 ?_
      refine zr_icmp_ge hx hb 417 ⟨by omega, by omega⟩ ⟨by omega, by omega⟩ dX11_eliminate_384 (by decide) (fun h_384 => ?_) (fun h_384 => ?_)
      · exfalso; omega
      · have hxj := hMc (7 * j + j) (by omega)
        rw [pe_fl_at _ (by omega)] at hxj
        refine lv_aload_n hx hb dX11_eliminate_387 rfl (lv_at hl 1 rfl) ?_
        refine lv_bipush (v := iZ 85) hx hb dX11_eliminate_388 (by decide) ?_
        refine zr_eqi (((85 : Nat) : Int)) (by rfl) ?_
        refine lv_bipush (v := iZ 84) hx hb dX11_eliminate_390 (by decide) ?_
        refine zr_eqi (((84 : Nat) : Int)) (by rfl) ?_
        refine lv_bipush (v := iZ 42) hx hb dX11_eliminate_392 (by decide) ?_
        refine lv_iload_n hx hb dX11_eliminate_394 rfl (lv_at hl 0 rfl) ?_
        refine lv_iload_n hx hb dX11_eliminate_395 rfl (lv_at hl 0 rfl) ?_
        refine zc_Si (As := [.int (iZ (((j : Nat) : Int))), .int (iZ (((j : Nat) : Int)))]) (rest := [.int (iZ (42)), .int (iZ (((84 : Nat) : Int))), .int (iZ (((85 : Nat) : Int))), .ref (mo)]) (wr := [(mo, mo_ fg le sg tp bl pr rs (((nn : Nat) : Int)) (1) (pe_svk (peM s9) nn (peR s9) (nn - peR s9)) (((peR s9 : Nat) : Int)) (peT s9) (((peH s9 : Nat) : Int)) (0)), (fg, aI cI (52200) (G)), (le, aI cI (190) (L1)), (sg, aI cI (90) (S1)), (tp, aI cI (1300) (T1)), (bl, aI cI (1300) (B1)), (pr, aI cI (6) (P1))]) ⟨hx, hb, hml, hown, hts⟩ (c_place l D cI cJ cE cF cR (j) (j) (by omega) (by omega)) (va_cwS 2 hts gX11_eliminate_X11_place rfl rfl rfl (by decide +kernel) ⟨Nat.le_of_ble_eq_true rfl, Nat.le_of_ble_eq_true rfl⟩) hN hK hP hD hS hA [] [0, 1, 2, 3, 4, 5, 6] rfl rfl (by decide) (by decide) (by decide) rfl hl.1 (Nat.le_of_ble_eq_true rfl) dX11_eliminate_396 ⟨by decide, by decide⟩ (fun z396 w1 H locs hz396 hp hP hD hS => ?_)
        obtain ⟨hw9, hx0⟩ := hp
        subst hw9
        subst hx0
        have hP := hP.sub (ws' := [(mo, mo_ fg le sg tp bl pr rs (((nn : Nat) : Int)) (1) (pe_svk (peM s9) nn (peR s9) (nn - peR s9)) (((peR s9 : Nat) : Int)) (peT s9) (((peH s9 : Nat) : Int)) (0)), (fg, aI cI (52200) (G)), (le, aI cI (190) (L1)), (sg, aI cI (90) (S1)), (tp, aI cI (1300) (T1)), (bl, aI cI (1300) (B1)), (pr, aI cI (6) (P1))]) [0, 1, 2, 3, 4, 5, 6] rfl
        have hD := hD.sub (ws' := [(mo, mo_ fg le sg tp bl pr rs (((nn : Nat) : Int)) (1) (pe_svk (peM s9) nn (peR s9) (nn - peR s9)) (((peR s9 : Nat) : Int)) (peT s9) (((peH s9 : Nat) : Int)) (0)), (fg, aI cI (52200) (G)), (le, aI cI (190) (L1)), (sg, aI cI (90) (S1)), (tp, aI cI (1300) (T1)), (bl, aI cI (1300) (B1)), (pr, aI cI (6) (P1))]) [0, 1, 2, 3, 4, 5, 6] (by decide) rfl
        refine zr_iadd hx hb dX11_eliminate_399 ?_
        refine zr_eqi (((42 + (7 * j + j) : Nat) : Int)) (by omega) ?_
        refine zc_Vv (As := [.int (iZ (((85 : Nat) : Int))), .int (iZ (((84 : Nat) : Int))), .int (iZ (((42 + (7 * j + j) : Nat) : Int)))]) (rest := []) (wr := [(pr, aI cI (6) (P1))]) ⟨hx, hb, hml, hown, hts⟩ (c_mproduct l D cI cJ cE cF cR mo fg le sg tp bl pr rs ((nn : Nat) : Int) (1) (pe_svk (peM s9) nn (peR s9) (nn - peR s9)) (((peR s9 : Nat) : Int)) (peT s9) (((peH s9 : Nat) : Int)) (0) 85 84 (42 + (7 * j + j)) 180 180 G L1 S1 T1 B1 (pe_dt (peM s9) (peT s9) j) (peM s9 j j) (by decide) (by decide) (by omega) hdt hxj (hdt.b (by decide)).1 (hdt.b (by decide)).2 (hxj.b (by omega)).1 (hxj.b (by omega)).2 (by decide)) (cwV 3 hts gX11_eliminate_X11_product rfl rfl rfl (by decide +kernel) ⟨Nat.le_of_ble_eq_true rfl, Nat.le_of_ble_eq_true rfl⟩) hN hK hP hD hS hA [0, 1, 2, 3, 4, 5] [6] rfl rfl (by decide) (by decide) (by decide) (q0 := 0) (ci := 11) rfl rfl rfl rfl hl.1 (Nat.le_of_ble_eq_true rfl) dX11_eliminate_400 ⟨by decide, by decide⟩ (fun w1 H locs hp hP hD hS => ?_)
        obtain ⟨F2, L2, S2, T2, B2, hw9, hk2, hf2⟩ := hp
        subst hw9
        have hP := hP.sub (ws' := [(mo, mo_ fg le sg tp bl pr rs (((nn : Nat) : Int)) (1) (pe_svk (peM s9) nn (peR s9) (nn - peR s9)) (((peR s9 : Nat) : Int)) (peT s9) (((peH s9 : Nat) : Int)) (0)), (fg, aI cI (52200) (F2)), (le, aI cI (190) (L2)), (sg, aI cI (90) (S2)), (tp, aI cI (1300) (T2)), (bl, aI cI (1300) (B2)), (pr, aI cI (6) (P1))]) [1, 2, 3, 4, 5, 6, 0] rfl
        have hD := hD.sub (ws' := [(mo, mo_ fg le sg tp bl pr rs (((nn : Nat) : Int)) (1) (pe_svk (peM s9) nn (peR s9) (nn - peR s9)) (((peR s9 : Nat) : Int)) (peT s9) (((peH s9 : Nat) : Int)) (0)), (fg, aI cI (52200) (F2)), (le, aI cI (190) (L2)), (sg, aI cI (90) (S2)), (tp, aI cI (1300) (T2)), (bl, aI cI (1300) (B2)), (pr, aI cI (6) (P1))]) [1, 2, 3, 4, 5, 6, 0] (by decide) rfl
        refine lv_aload_n hx hb dX11_eliminate_403 rfl (lv_at hl 1 rfl) ?_
        refine lv_bipush (v := iZ 84) hx hb dX11_eliminate_404 (by decide) ?_
        refine zr_eqi (((84 : Nat) : Int)) (by rfl) ?_
        refine lv_bipush (v := iZ 85) hx hb dX11_eliminate_406 (by decide) ?_
        refine zr_eqi (((85 : Nat) : Int)) (by rfl) ?_
        refine zc_Vv (As := [.int (iZ (((84 : Nat) : Int))), .int (iZ (((85 : Nat) : Int)))]) (rest := []) (wr := [(tp, aI cI (1300) (T2)), (bl, aI cI (1300) (B2)), (pr, aI cI (6) (P1))]) ⟨hx, hb, hml, hown, hts⟩ (c_massign l D cI cJ cE cF cR mo fg le sg tp bl pr rs ((nn : Nat) : Int) (1) (pe_svk (peM s9) nn (peR s9) (nn - peR s9)) (((peR s9 : Nat) : Int)) (peT s9) (((peH s9 : Nat) : Int)) (0) (84) (85) 180 F2 L2 S2 (pe_dt (peM s9) (peT s9) (j + 1)) (by decide) (by decide) (by decide) (hf2) (peV_db hT hn hV9 hrn (k := j + 1) (by omega)).1 (peV_db hT hn hV9 hrn (k := j + 1) (by omega)).2 ((mdC_b _).1) ((mdC_b _).1)) (cwV 2 hts gX11_eliminate_X11_assign rfl rfl rfl (by decide +kernel) ⟨Nat.le_of_ble_eq_true rfl, Nat.le_of_ble_eq_true rfl⟩) hN hK hP hD hS hA [0, 1, 2, 3] [4, 5, 6] rfl rfl (by decide) (by decide) (by decide) (q0 := 0) (ci := 11) rfl rfl rfl rfl hl.1 (Nat.le_of_ble_eq_true rfl) dX11_eliminate_408 ⟨by decide, by decide⟩ (fun w1 H locs hp hP hD hS => ?_)
        obtain ⟨F3, L3, S3, hw9, hk3, hf3⟩ := hp
        subst hw9
        have hP := hP.sub (ws' := [(mo, mo_ fg le sg tp bl pr rs (((nn : Nat) : Int)) (1) (pe_svk (peM s9) nn (peR s9) (nn - peR s9)) (((peR s9 : Nat) : Int)) (peT s9) (((peH s9 : Nat) : Int)) (0)), (fg, aI cI (52200) (F3)), (le, aI cI (190) (L3)), (sg, aI cI (90) (S3)), (tp, aI cI (1300) (T2)), (bl, aI cI (1300) (B2)), (pr, aI cI (6) (P1))]) [3, 4, 5, 6, 0, 1, 2] rfl
        have hD := hD.sub (ws' := [(mo, mo_ fg le sg tp bl pr rs (((nn : Nat) : Int)) (1) (pe_svk (peM s9) nn (peR s9) (nn - peR s9)) (((peR s9 : Nat) : Int)) (peT s9) (((peH s9 : Nat) : Int)) (0)), (fg, aI cI (52200) (F3)), (le, aI cI (190) (L3)), (sg, aI cI (90) (S3)), (tp, aI cI (1300) (T2)), (bl, aI cI (1300) (B2)), (pr, aI cI (6) (P1))]) [3, 4, 5, 6, 0, 1, 2] (by decide) rfl
        refine lv_iinc (v := iZ (((j + 1 : Nat) : Int))) (lv' := [(2, .int (iZ (((j + 1 : Nat) : Int)))), (0, .ref (mo)), (1, .int (iZ (cp)))]) hx hb dX11_eliminate_411 hl (k := 0) rfl (by rw [show ((j + 1 : Nat) : Int) = ((j : Nat) : Int) + 1 by omega]; exact iZ_add _ _) (by decide) rfl (fun ls hl => ?_)
        refine lv_goto (tgt := 379) hx hb dX11_eliminate_414 (by decide) ?_
        exact ih (j + 1) F3 L3 S3 T2 B2 P1 H locs ls (by omega) (fun g g1 g2 => ((hke g g1 g2).trans (hk2 g g1 (by omega))).trans (hk3 g g1 (by omega))) ((hMc.keep hk2 (by decide) (by decide)).keep hk3 (by decide) (by decide)) hPR hcap hrn hf3 hP hD hS (lv_sub hl [0, 1, 2] rfl)
  have j341 : ∀ (G : Nat → Int) (L1 : Nat → Int) (S1 : Nat → Int) (T1 : Nat → Int) (B1 : Nat → Int) (P1 : Nat → Int) (H : Heap) (locs : List Loc) (ls : Array Slot), (∀ g : Nat, g < 90 → g < 42 → md_ef F Ln Sg G L1 S1 g) → (md_A G L1 S1 42 (pe_fl (peM s9))) → (∀ j : Nat, j < nn → P1 j = peP s9 j) → (((peH s9 : Nat) : Int) ≤ cp) →  va_P D vwCl [(mo, mo_ fg le sg tp bl pr rs (((nn : Nat) : Int)) (1) (pe_svk (peM s9) nn (peR s9) (nn - peR s9)) (((peR s9 : Nat) : Int)) (peT s9) (((peH s9 : Nat) : Int)) (0)), (fg, aI cI (52200) (G)), (le, aI cI (190) (L1)), (sg, aI cI (90) (S1)), (tp, aI cI (1300) (T1)), (bl, aI cI (1300) (B1)), (pr, aI cI (6) (P1))] H → va_D A [(mo, mo_ fg le sg tp bl pr rs (((nn : Nat) : Int)) (1) (pe_svk (peM s9) nn (peR s9) (nn - peR s9)) (((peR s9 : Nat) : Int)) (peT s9) (((peH s9 : Nat) : Int)) (0)), (fg, aI cI (52200) (G)), (le, aI cI (190) (L1)), (sg, aI cI (90) (S1)), (tp, aI cI (1300) (T1)), (bl, aI cI (1300) (B1)), (pr, aI cI (6) (P1))] → va_S A s.heap H locs → lv_has ls 5 [(0, .ref (mo)), (1, .int (iZ (cp)))] → W zp l ze (zRm 9 290) s zm args below meth zc H locs 0 0 Q (F0 zm 341 ls []) := by
    intro G L1 S1 T1 B1 P1 H locs ls hke hMc hPR hcap hP hD hS hl
    refine lv_aload_n hx hb dX11_eliminate_341 rfl (lv_at hl 0 rfl) ?_
    refine lv_bipush (v := iZ 84) hx hb dX11_eliminate_342 (by decide) ?_
    refine zr_eqi (((84 : Nat) : Int)) (by rfl) ?_
    refine zc_Vv (As := [.int (iZ (((84 : Nat) : Int)))]) (rest := []) (wr := [(tp, aI cI (1300) (T1)), (bl, aI cI (1300) (B1)), (pr, aI cI (6) (P1))]) ⟨hx, hb, hml, hown, hts⟩ (c_mzero l D cI cJ cE cF cR mo fg le sg tp bl pr rs ((nn : Nat) : Int) (1) (pe_svk (peM s9) nn (peR s9) (nn - peR s9)) (((peR s9 : Nat) : Int)) (peT s9) (((peH s9 : Nat) : Int)) (0) 84 G L1 S1 (by decide)) (cwV 1 hts gX11_eliminate_X11_zero rfl rfl rfl (by decide +kernel) ⟨Nat.le_of_ble_eq_true rfl, Nat.le_of_ble_eq_true rfl⟩) hN hK hP hD hS hA [0, 1, 2, 3] [4, 5, 6] rfl rfl (by decide) (by decide) (by decide) (q0 := 0) (ci := 11) rfl rfl rfl rfl hl.1 (Nat.le_of_ble_eq_true rfl) dX11_eliminate_344 ⟨by decide, by decide⟩ (fun w1 H locs hp hP hD hS => ?_)
    obtain ⟨F2, L2, S2, hw9, hk2, hf2⟩ := hp
    subst hw9
    have hP := hP.sub (ws' := [(mo, mo_ fg le sg tp bl pr rs (((nn : Nat) : Int)) (1) (pe_svk (peM s9) nn (peR s9) (nn - peR s9)) (((peR s9 : Nat) : Int)) (peT s9) (((peH s9 : Nat) : Int)) (0)), (fg, aI cI (52200) (F2)), (le, aI cI (190) (L2)), (sg, aI cI (90) (S2)), (tp, aI cI (1300) (T1)), (bl, aI cI (1300) (B1)), (pr, aI cI (6) (P1))]) [3, 4, 5, 6, 0, 1, 2] rfl
    have hD := hD.sub (ws' := [(mo, mo_ fg le sg tp bl pr rs (((nn : Nat) : Int)) (1) (pe_svk (peM s9) nn (peR s9) (nn - peR s9)) (((peR s9 : Nat) : Int)) (peT s9) (((peH s9 : Nat) : Int)) (0)), (fg, aI cI (52200) (F2)), (le, aI cI (190) (L2)), (sg, aI cI (90) (S2)), (tp, aI cI (1300) (T1)), (bl, aI cI (1300) (B1)), (pr, aI cI (6) (P1))]) [3, 4, 5, 6, 0, 1, 2] (by decide) rfl
    refine lv_aload_n hx hb dX11_eliminate_347 rfl (lv_at hl 0 rfl) ?_
    refine va_get (D := D) (ci := 11) (v := .int (iZ (((peR s9 : Nat) : Int)))) (C := RX11) (T := TX11) (N := 14) hx hb hts hin11 hown hK hP 0 rfl rfl 8 (by decide) q_f_RX11_136_LimbSolverModel_rank_I (fun _ h9 => h9) rfl dX11_eliminate_348 ?_
    refine lv_aload_n hx hb dX11_eliminate_351 rfl (lv_at hl 0 rfl) ?_
    refine va_get (D := D) (ci := 11) (v := .int (iZ (((nn : Nat) : Int)))) (C := RX11) (T := TX11) (N := 14) hx hb hts hin11 hown hK hP 0 rfl rfl 5 (by decide) q_f_RX11_26_LimbSolverModel_n_I (fun _ h9 => h9) rfl dX11_eliminate_352 ?_
    refine zr_icmp_ne hx hb 417 ⟨by omega, by omega⟩ ⟨by omega, by omega⟩ dX11_eliminate_355 (by decide) (fun h_355 => ?_) (fun h_355 => ?_)
    · refine lv_aload_n hx hb dX11_eliminate_417 rfl (lv_at hl 0 rfl) ?_
      refine va_get (D := D) (ci := 11) (v := .int (iZ (((peR s9 : Nat) : Int)))) (C := RX11) (T := TX11) (N := 14) hx hb hts hin11 hown hK hP 0 rfl rfl 8 (by decide) q_f_RX11_136_LimbSolverModel_rank_I (fun _ h9 => h9) rfl dX11_eliminate_418 ?_
      exact zr_iret hQ hx hb hr hlk dX11_eliminate_421 hK hP hD hS (by omega) (by omega) ⟨by omega, by omega⟩ (by rw [← hs9]; exact ⟨F2, L2, S2, T1, B1, P1, 1, _, _, _, _, rfl, (fun g g1 g2 => (hke g g1 g2).trans (hk2 g g1 (by omega))), Or.inl ⟨hcap, rfl, rfl, hMc.keep hk2 (by decide) (by decide), by rw [if_neg (by omega)]; exact hf2, rfl, rfl, rfl, hPR⟩⟩)
    · refine lv_aload_n hx hb dX11_eliminate_358 rfl (lv_at hl 0 rfl) ?_
      refine va_get (D := D) (ci := 11) (v := .ref (sg)) (C := RX11) (T := TX11) (N := 14) hx hb hts hin11 hown hK hP 0 rfl rfl 2 (by decide) q_f_RX11_17_LimbSolverModel_sign_I (fun _ h9 => h9) rfl dX11_eliminate_359 ?_
      refine lv_bipush (v := iZ 84) hx hb dX11_eliminate_362 (by decide) ?_
      refine zr_eqi (((84 : Nat) : Int)) (by rfl) ?_
      refine lv_aload_n hx hb dX11_eliminate_364 rfl (lv_at hl 0 rfl) ?_
      refine va_get (D := D) (ci := 11) (v := .int (iZ (peT s9))) (C := RX11) (T := TX11) (N := 14) hx hb hts hin11 hown hK hP 0 rfl rfl 9 (by decide) q_f_RX11_139_LimbSolverModel_turns_I (fun _ h9 => h9) rfl dX11_eliminate_365 ?_
      refine zr_iast hx hb hK hP hD hS 3 0 rfl rfl (84) (by omega) (by omega) (by omega) dX11_eliminate_368 (fun H locs hP hD hS => ?_)
      have hP : va_P D vwCl [(mo, mo_ fg le sg tp bl pr rs (((nn : Nat) : Int)) (1) (pe_svk (peM s9) nn (peR s9) (nn - peR s9)) (((peR s9 : Nat) : Int)) (peT s9) (((peH s9 : Nat) : Int)) (0)), (fg, aI cI (52200) (F2)), (le, aI cI (190) (L2)), (sg, aI cI (90) (zu (S2) (84) (peT s9))), (tp, aI cI (1300) (T1)), (bl, aI cI (1300) (B1)), (pr, aI cI (6) (P1))] H := hP
      have hD : va_D A [(mo, mo_ fg le sg tp bl pr rs (((nn : Nat) : Int)) (1) (pe_svk (peM s9) nn (peR s9) (nn - peR s9)) (((peR s9 : Nat) : Int)) (peT s9) (((peH s9 : Nat) : Int)) (0)), (fg, aI cI (52200) (F2)), (le, aI cI (190) (L2)), (sg, aI cI (90) (zu (S2) (84) (peT s9))), (tp, aI cI (1300) (T1)), (bl, aI cI (1300) (B1)), (pr, aI cI (6) (P1))] := hD
      refine lv_aload_n hx hb dX11_eliminate_369 rfl (lv_at hl 0 rfl) ?_
      refine lv_sipush (v := iZ 168) hx hb dX11_eliminate_370 (by decide) ?_
      refine zr_eqi (((168 : Nat) : Int)) (by rfl) ?_
      refine lv_lconst (v := lZ 1) hx hb dX11_eliminate_373 rfl ?_
      refine zc_Vv (As := [.int (iZ (((168 : Nat) : Int))), .long (lZ (1))]) (rest := []) (wr := [(sg, aI cI (90) (zu (S2) (84) (peT s9))), (tp, aI cI (1300) (T1)), (bl, aI cI (1300) (B1)), (pr, aI cI (6) (P1))]) ⟨hx, hb, hml, hown, hts⟩ (c_mput l D cI cJ cE cF cR mo fg le sg tp bl pr rs ((nn : Nat) : Int) (1) (pe_svk (peM s9) nn (peR s9) (nn - peR s9)) (((peR s9 : Nat) : Int)) (peT s9) (((peH s9 : Nat) : Int)) (0) 168 F2 L2 1 (by decide) ⟨by decide, by decide⟩) (cwV 2 hts gX11_eliminate_X11_put rfl rfl rfl (by decide +kernel) ⟨Nat.le_of_ble_eq_true rfl, Nat.le_of_ble_eq_true rfl⟩) hN hK hP hD hS hA [0, 1, 2] [3, 4, 5, 6] rfl rfl (by decide) (by decide) (by decide) (q0 := 0) (ci := 11) rfl rfl rfl rfl hl.1 (Nat.le_of_ble_eq_true rfl) dX11_eliminate_374 ⟨by decide, by decide⟩ (fun w1 H locs hp hP hD hS => ?_)
      obtain ⟨F3, L3, hw9, hG3⟩ := hp
      subst hw9
      have hP := hP.sub (ws' := [(mo, mo_ fg le sg tp bl pr rs (((nn : Nat) : Int)) (1) (pe_svk (peM s9) nn (peR s9) (nn - peR s9)) (((peR s9 : Nat) : Int)) (peT s9) (((peH s9 : Nat) : Int)) (0)), (fg, aI cI (52200) (F3)), (le, aI cI (190) (L3)), (sg, aI cI (90) (zu (S2) (84) (peT s9))), (tp, aI cI (1300) (T1)), (bl, aI cI (1300) (B1)), (pr, aI cI (6) (P1))]) [4, 5, 6, 0, 1, 2, 3] rfl
      have hD := hD.sub (ws' := [(mo, mo_ fg le sg tp bl pr rs (((nn : Nat) : Int)) (1) (pe_svk (peM s9) nn (peR s9) (nn - peR s9)) (((peR s9 : Nat) : Int)) (peT s9) (((peH s9 : Nat) : Int)) (0)), (fg, aI cI (52200) (F3)), (le, aI cI (190) (L3)), (sg, aI cI (90) (zu (S2) (84) (peT s9))), (tp, aI cI (1300) (T1)), (bl, aI cI (1300) (B1)), (pr, aI cI (6) (P1))]) [4, 5, 6, 0, 1, 2, 3] (by decide) rfl
      refine lv_iconst (v := iZ 0) hx hb dX11_eliminate_377 rfl ?_
      refine lv_istore_n (lv' := [(2, .int (iZ (0))), (0, .ref (mo)), (1, .int (iZ (cp)))]) hx hb dX11_eliminate_378 rfl hl (by decide) rfl (fun ls hl => ?_)
      exact dlp nn 0 F3 L3 (zu S2 84 (peT s9)) T1 B1 P1 H locs ls (by omega) (fun g g1 g2 => (hke g g1 g2).trans ((hk2 g g1 (by omega)).trans ⟨hG3.1 _ (by omega) (by omega), hG3.1 _ (by omega) (by omega), zu_n S2 _ (by omega)⟩)) (fun j hj => ((hk2 _ (by omega) (by omega)).trans ⟨hG3.1 _ (by omega) (by omega), hG3.1 _ (by omega) (by omega), zu_n S2 _ (by omega)⟩).f (hMc j hj)) hPR hcap (by omega) (pe_tn hV9.2.2.2.2.2.2.2.2.2 hf2 hG3) hP hD hS (lv_sub hl [0, 1, 2] rfl)
  have slp : ∀ (t : Nat) (k9 : Nat) (G : Nat → Int) (L1 : Nat → Int) (S1 : Nat → Int) (T1 : Nat → Int) (B1 : Nat → Int) (P1 : Nat → Int) (H : Heap) (locs : List Loc) (ls : Array Slot), (peR s9 + k9 + t = nn) → (∀ g : Nat, g < 90 → g < 42 → md_ef F Ln Sg G L1 S1 g) → (md_A G L1 S1 42 (pe_fl (peM s9))) → (∀ j : Nat, j < nn → P1 j = peP s9 j) → (((peH s9 : Nat) : Int) ≤ cp) →  va_P D vwCl [(mo, mo_ fg le sg tp bl pr rs (((nn : Nat) : Int)) (1) (pe_svk (peM s9) nn (peR s9) k9) (((peR s9 : Nat) : Int)) (peT s9) (((peH s9 : Nat) : Int)) (0)), (fg, aI cI (52200) (G)), (le, aI cI (190) (L1)), (sg, aI cI (90) (S1)), (tp, aI cI (1300) (T1)), (bl, aI cI (1300) (B1)), (pr, aI cI (6) (P1))] H → va_D A [(mo, mo_ fg le sg tp bl pr rs (((nn : Nat) : Int)) (1) (pe_svk (peM s9) nn (peR s9) k9) (((peR s9 : Nat) : Int)) (peT s9) (((peH s9 : Nat) : Int)) (0)), (fg, aI cI (52200) (G)), (le, aI cI (190) (L1)), (sg, aI cI (90) (S1)), (tp, aI cI (1300) (T1)), (bl, aI cI (1300) (B1)), (pr, aI cI (6) (P1))] → va_S A s.heap H locs → lv_has ls 5 [(2, .int (iZ (((peR s9 + k9 : Nat) : Int)))), (0, .ref (mo)), (1, .int (iZ (cp)))] → W zp l ze (zRm 9 290) s zm args below meth zc H locs 0 0 Q (F0 zm 294 ls []) := by
    intro t
    induction t with
    | zero =>
      intro k9 G L1 S1 T1 B1 P1 H locs ls hkt hke hMc hPR hcap hP hD hS hl
      refine lv_iload_n hx hb dX11_eliminate_294 rfl (lv_at hl 0 rfl) ?_
      refine lv_aload_n hx hb dX11_eliminate_295 rfl (lv_at hl 1 rfl) ?_
      refine va_get (D := D) (ci := 11) (v := .int (iZ (((nn : Nat) : Int)))) (C := RX11) (T := TX11) (N := 14) hx hb hts hin11 hown hK hP 0 rfl rfl 5 (by decide) q_f_RX11_26_LimbSolverModel_n_I (fun _ h9 => h9) rfl dX11_eliminate_296 ?_
      refine zr_icmp_ge hx hb 341 ⟨by omega, by omega⟩ ⟨by omega, by omega⟩ dX11_eliminate_299 (by decide) (fun h_299 => ?_) (fun h_299 => ?_)
      · exact j341 G L1 S1 T1 B1 P1 H locs ls hke hMc hPR hcap (by rw [← show k9 = nn - peR s9 by omega]; exact hP) (by rw [← show k9 = nn - peR s9 by omega]; exact hD) hS (lv_sub hl [1, 2] rfl)
      · exfalso; omega
    | succ t ih =>
      intro k9 G L1 S1 T1 B1 P1 H locs ls hkt hke hMc hPR hcap hP hD hS hl
      refine lv_iload_n hx hb dX11_eliminate_294 rfl (lv_at hl 0 rfl) ?_
      refine lv_aload_n hx hb dX11_eliminate_295 rfl (lv_at hl 1 rfl) ?_
      refine va_get (D := D) (ci := 11) (v := .int (iZ (((nn : Nat) : Int)))) (C := RX11) (T := TX11) (N := 14) hx hb hts hin11 hown hK hP 0 rfl rfl 5 (by decide) q_f_RX11_26_LimbSolverModel_n_I (fun _ h9 => h9) rfl dX11_eliminate_296 ?_
      refine zr_icmp_ge hx hb 341 ⟨by omega, by omega⟩ ⟨by omega, by omega⟩ dX11_eliminate_299 (by decide) (fun h_299 => ?_) (fun h_299 => ?_)
      · exfalso; omega
      · have hxi := hMc (7 * (peR s9 + k9) + nn) (by omega)
        rw [pe_fl_at _ (by omega)] at hxi
        refine lv_aload_n hx hb dX11_eliminate_302 rfl (lv_at hl 1 rfl) ?_
        refine lv_dup hx hb dX11_eliminate_303 rfl ?_
        refine va_get (D := D) (ci := 11) (v := .int (iZ (pe_svk (peM s9) nn (peR s9) k9))) (C := RX11) (T := TX11) (N := 14) hx hb hts hin11 hown hK hP 0 rfl rfl 7 (by decide) q_f_RX11_151_LimbSolverModel_solvable_Z (fun _ h9 => h9) rfl dX11_eliminate_304 ?_
        refine lv_aload_n hx hb dX11_eliminate_307 rfl (lv_at hl 1 rfl) ?_
        refine va_get (D := D) (ci := 11) (v := .ref (sg)) (C := RX11) (T := TX11) (N := 14) hx hb hts hin11 hown hK hP 0 rfl rfl 2 (by decide) q_f_RX11_17_LimbSolverModel_sign_I (fun _ h9 => h9) rfl dX11_eliminate_308 ?_
        refine lv_bipush (v := iZ 42) hx hb dX11_eliminate_311 (by decide) ?_
        refine lv_iload_n hx hb dX11_eliminate_313 rfl (lv_at hl 0 rfl) ?_
        refine lv_aload_n hx hb dX11_eliminate_314 rfl (lv_at hl 1 rfl) ?_
        refine va_get (D := D) (ci := 11) (v := .int (iZ (((nn : Nat) : Int)))) (C := RX11) (T := TX11) (N := 14) hx hb hts hin11 hown hK hP 0 rfl rfl 5 (by decide) q_f_RX11_26_LimbSolverModel_n_I (fun _ h9 => h9) rfl dX11_eliminate_315 ?_
        refine zc_Si (As := [.int (iZ (((peR s9 + k9 : Nat) : Int))), .int (iZ (((nn : Nat) : Int)))]) (rest := [.int (iZ (42)), .ref (sg), .int (iZ (pe_svk (peM s9) nn (peR s9) k9)), .ref (mo)]) (wr := [(mo, mo_ fg le sg tp bl pr rs (((nn : Nat) : Int)) (1) (pe_svk (peM s9) nn (peR s9) k9) (((peR s9 : Nat) : Int)) (peT s9) (((peH s9 : Nat) : Int)) (0)), (fg, aI cI (52200) (G)), (le, aI cI (190) (L1)), (sg, aI cI (90) (S1)), (tp, aI cI (1300) (T1)), (bl, aI cI (1300) (B1)), (pr, aI cI (6) (P1))]) ⟨hx, hb, hml, hown, hts⟩ (c_place l D cI cJ cE cF cR ((peR s9 + k9)) (nn) (by omega) (by omega)) (va_cwS 2 hts gX11_eliminate_X11_place rfl rfl rfl (by decide +kernel) ⟨Nat.le_of_ble_eq_true rfl, Nat.le_of_ble_eq_true rfl⟩) hN hK hP hD hS hA [] [0, 1, 2, 3, 4, 5, 6] rfl rfl (by decide) (by decide) (by decide) rfl hl.1 (Nat.le_of_ble_eq_true rfl) dX11_eliminate_318 ⟨by decide, by decide⟩ (fun z318 w1 H locs hz318 hp hP hD hS => ?_)
        obtain ⟨hw9, hx0⟩ := hp
        subst hw9
        subst hx0
        have hP := hP.sub (ws' := [(mo, mo_ fg le sg tp bl pr rs (((nn : Nat) : Int)) (1) (pe_svk (peM s9) nn (peR s9) k9) (((peR s9 : Nat) : Int)) (peT s9) (((peH s9 : Nat) : Int)) (0)), (fg, aI cI (52200) (G)), (le, aI cI (190) (L1)), (sg, aI cI (90) (S1)), (tp, aI cI (1300) (T1)), (bl, aI cI (1300) (B1)), (pr, aI cI (6) (P1))]) [0, 1, 2, 3, 4, 5, 6] rfl
        have hD := hD.sub (ws' := [(mo, mo_ fg le sg tp bl pr rs (((nn : Nat) : Int)) (1) (pe_svk (peM s9) nn (peR s9) k9) (((peR s9 : Nat) : Int)) (peT s9) (((peH s9 : Nat) : Int)) (0)), (fg, aI cI (52200) (G)), (le, aI cI (190) (L1)), (sg, aI cI (90) (S1)), (tp, aI cI (1300) (T1)), (bl, aI cI (1300) (B1)), (pr, aI cI (6) (P1))]) [0, 1, 2, 3, 4, 5, 6] (by decide) rfl
        refine zr_iadd hx hb dX11_eliminate_321 ?_
        refine zr_eqi (((42 + (7 * (peR s9 + k9) + nn) : Nat) : Int)) (by omega) ?_
        refine zr_iald hx hb hK hP 3 0 rfl rfl (42 + (7 * (peR s9 + k9) + nn)) (by omega) (by omega) (by omega) dX11_eliminate_322 ?_
        refine zr_eqi ((peM s9 (peR s9 + k9) nn).num.sign) (hxi).1 ?_
        refine zr_if_ne hx hb 330 ⟨by rcases md_sg (x := peM s9 (peR s9 + k9) nn) with q | q | q <;> rw [q] <;> decide, by rcases md_sg (x := peM s9 (peR s9 + k9) nn) with q | q | q <;> rw [q] <;> decide⟩ dX11_eliminate_323 (by decide) (fun h_323 => ?_) (fun h_323 => ?_)
        · refine lv_iconst (v := iZ 0) hx hb dX11_eliminate_330 rfl ?_
          refine zr_iand hx hb 0 (by decide) (by decide) dX11_eliminate_331 ?_
          refine zr_eqi (pe_svk (peM s9) nn (peR s9) (k9 + 1)) (by show _ = (if peM s9 (peR s9 + k9) nn = 0 then pe_svk (peM s9) nn (peR s9) k9 else 0); first | (rw [if_pos (md_sg0.mp h_323)]; rcases pe_svk01 (peM s9) nn (peR s9) k9 with q | q <;> rw [q] <;> rfl) | (rw [if_neg (fun q => h_323 (md_sg0.mpr q))]; rcases pe_svk01 (peM s9) nn (peR s9) k9 with q | q <;> rw [q] <;> rfl)) ?_
          refine va_put (D := D) (ci := 11) (v := .int (iZ (pe_svk (peM s9) nn (peR s9) (k9 + 1)))) (ty := tyX11 7) (C := RX11) (T := TX11) (N := 14) hx hb hts hin11 tyX11 tyX11_ok nmX11 hown hK hP hD hS 0 rfl rfl 7 (by decide) q_f_RX11_151_LimbSolverModel_solvable_Z (fun _ h9 => h9) rfl (tyX11_ok 7 (by decide)) (by rcases pe_svk01 (peM s9) nn (peR s9) (k9 + 1) with q | q <;> rw [q] <;> rfl) (by rcases pe_svk01 (peM s9) nn (peR s9) (k9 + 1) with q | q <;> rw [q] <;> rfl) (Nat.le_of_ble_eq_true rfl) dX11_eliminate_332 (fun H locs hP hD hS => ?_)
          have hP : va_P D vwCl [(mo, mo_ fg le sg tp bl pr rs (((nn : Nat) : Int)) (1) (pe_svk (peM s9) nn (peR s9) (k9 + 1)) (((peR s9 : Nat) : Int)) (peT s9) (((peH s9 : Nat) : Int)) (0)), (fg, aI cI (52200) (G)), (le, aI cI (190) (L1)), (sg, aI cI (90) (S1)), (tp, aI cI (1300) (T1)), (bl, aI cI (1300) (B1)), (pr, aI cI (6) (P1))] H := hP
          have hD : va_D A [(mo, mo_ fg le sg tp bl pr rs (((nn : Nat) : Int)) (1) (pe_svk (peM s9) nn (peR s9) (k9 + 1)) (((peR s9 : Nat) : Int)) (peT s9) (((peH s9 : Nat) : Int)) (0)), (fg, aI cI (52200) (G)), (le, aI cI (190) (L1)), (sg, aI cI (90) (S1)), (tp, aI cI (1300) (T1)), (bl, aI cI (1300) (B1)), (pr, aI cI (6) (P1))] := hD
          refine lv_iinc (v := iZ (((peR s9 + (k9 + 1) : Nat) : Int))) (lv' := [(2, .int (iZ (((peR s9 + (k9 + 1) : Nat) : Int)))), (0, .ref (mo)), (1, .int (iZ (cp)))]) hx hb dX11_eliminate_335 hl (k := 0) rfl (by rw [show ((peR s9 + (k9 + 1) : Nat) : Int) = ((peR s9 + k9 : Nat) : Int) + 1 by omega]; exact iZ_add _ _) (by decide) rfl (fun ls hl => ?_)
          refine lv_goto (tgt := 294) hx hb dX11_eliminate_338 (by decide) ?_
          exact ih (k9 + 1) G L1 S1 T1 B1 P1 H locs ls (by omega) hke hMc hPR hcap hP hD hS (lv_sub hl [0, 1, 2] rfl)
        · refine lv_iconst (v := iZ 1) hx hb dX11_eliminate_326 rfl ?_
          refine lv_goto (tgt := 331) hx hb dX11_eliminate_327 (by decide) ?_
          refine zr_iand hx hb 1 (by decide) (by decide) dX11_eliminate_331 ?_
          refine zr_eqi (pe_svk (peM s9) nn (peR s9) (k9 + 1)) (by show _ = (if peM s9 (peR s9 + k9) nn = 0 then pe_svk (peM s9) nn (peR s9) k9 else 0); first | (rw [if_pos (md_sg0.mp h_323)]; rcases pe_svk01 (peM s9) nn (peR s9) k9 with q | q <;> rw [q] <;> rfl) | (rw [if_neg (fun q => h_323 (md_sg0.mpr q))]; rcases pe_svk01 (peM s9) nn (peR s9) k9 with q | q <;> rw [q] <;> rfl)) ?_
          refine va_put (D := D) (ci := 11) (v := .int (iZ (pe_svk (peM s9) nn (peR s9) (k9 + 1)))) (ty := tyX11 7) (C := RX11) (T := TX11) (N := 14) hx hb hts hin11 tyX11 tyX11_ok nmX11 hown hK hP hD hS 0 rfl rfl 7 (by decide) q_f_RX11_151_LimbSolverModel_solvable_Z (fun _ h9 => h9) rfl (tyX11_ok 7 (by decide)) (by rcases pe_svk01 (peM s9) nn (peR s9) (k9 + 1) with q | q <;> rw [q] <;> rfl) (by rcases pe_svk01 (peM s9) nn (peR s9) (k9 + 1) with q | q <;> rw [q] <;> rfl) (Nat.le_of_ble_eq_true rfl) dX11_eliminate_332 (fun H locs hP hD hS => ?_)
          have hP : va_P D vwCl [(mo, mo_ fg le sg tp bl pr rs (((nn : Nat) : Int)) (1) (pe_svk (peM s9) nn (peR s9) (k9 + 1)) (((peR s9 : Nat) : Int)) (peT s9) (((peH s9 : Nat) : Int)) (0)), (fg, aI cI (52200) (G)), (le, aI cI (190) (L1)), (sg, aI cI (90) (S1)), (tp, aI cI (1300) (T1)), (bl, aI cI (1300) (B1)), (pr, aI cI (6) (P1))] H := hP
          have hD : va_D A [(mo, mo_ fg le sg tp bl pr rs (((nn : Nat) : Int)) (1) (pe_svk (peM s9) nn (peR s9) (k9 + 1)) (((peR s9 : Nat) : Int)) (peT s9) (((peH s9 : Nat) : Int)) (0)), (fg, aI cI (52200) (G)), (le, aI cI (190) (L1)), (sg, aI cI (90) (S1)), (tp, aI cI (1300) (T1)), (bl, aI cI (1300) (B1)), (pr, aI cI (6) (P1))] := hD
          refine lv_iinc (v := iZ (((peR s9 + (k9 + 1) : Nat) : Int))) (lv' := [(2, .int (iZ (((peR s9 + (k9 + 1) : Nat) : Int)))), (0, .ref (mo)), (1, .int (iZ (cp)))]) hx hb dX11_eliminate_335 hl (k := 0) rfl (by rw [show ((peR s9 + (k9 + 1) : Nat) : Int) = ((peR s9 + k9 : Nat) : Int) + 1 by omega]; exact iZ_add _ _) (by decide) rfl (fun ls hl => ?_)
          refine lv_goto (tgt := 294) hx hb dX11_eliminate_338 (by decide) ?_
          exact ih (k9 + 1) G L1 S1 T1 B1 P1 H locs ls (by omega) hke hMc hPR hcap hP hD hS (lv_sub hl [0, 1, 2] rfl)
  have j279 : ∀ (G : Nat → Int) (L1 : Nat → Int) (S1 : Nat → Int) (T1 : Nat → Int) (B1 : Nat → Int) (P1 : Nat → Int) (H : Heap) (locs : List Loc) (ls : Array Slot), (∀ g : Nat, g < 90 → g < 42 → md_ef F Ln Sg G L1 S1 g) → (md_A G L1 S1 42 (pe_fl (peM s9))) → (∀ j : Nat, j < nn → P1 j = peP s9 j) → (((peH s9 : Nat) : Int) ≤ cp) →  va_P D vwCl [(mo, mo_ fg le sg tp bl pr rs (((nn : Nat) : Int)) (0) (sv) (((peR s9 : Nat) : Int)) (peT s9) (((peH s9 : Nat) : Int)) (0)), (fg, aI cI (52200) (G)), (le, aI cI (190) (L1)), (sg, aI cI (90) (S1)), (tp, aI cI (1300) (T1)), (bl, aI cI (1300) (B1)), (pr, aI cI (6) (P1))] H → va_D A [(mo, mo_ fg le sg tp bl pr rs (((nn : Nat) : Int)) (0) (sv) (((peR s9 : Nat) : Int)) (peT s9) (((peH s9 : Nat) : Int)) (0)), (fg, aI cI (52200) (G)), (le, aI cI (190) (L1)), (sg, aI cI (90) (S1)), (tp, aI cI (1300) (T1)), (bl, aI cI (1300) (B1)), (pr, aI cI (6) (P1))] → va_S A s.heap H locs → lv_has ls 5 [(0, .ref (mo)), (1, .int (iZ (cp)))] → W zp l ze (zRm 9 290) s zm args below meth zc H locs 0 0 Q (F0 zm 279 ls []) := by
    intro G L1 S1 T1 B1 P1 H locs ls hke hMc hPR hcap hP hD hS hl
    refine lv_aload_n hx hb dX11_eliminate_279 rfl (lv_at hl 0 rfl) ?_
    refine lv_iconst (v := iZ 1) hx hb dX11_eliminate_280 rfl ?_
    refine va_put (D := D) (ci := 11) (v := .int (iZ (1))) (ty := tyX11 6) (C := RX11) (T := TX11) (N := 14) hx hb hts hin11 tyX11 tyX11_ok nmX11 hown hK hP hD hS 0 rfl rfl 6 (by decide) q_f_RX11_109_LimbSolverModel_done_Z (fun _ h9 => h9) rfl (tyX11_ok 6 (by decide)) rfl rfl (Nat.le_of_ble_eq_true rfl) dX11_eliminate_281 (fun H locs hP hD hS => ?_)
    have hP : va_P D vwCl [(mo, mo_ fg le sg tp bl pr rs (((nn : Nat) : Int)) (1) (sv) (((peR s9 : Nat) : Int)) (peT s9) (((peH s9 : Nat) : Int)) (0)), (fg, aI cI (52200) (G)), (le, aI cI (190) (L1)), (sg, aI cI (90) (S1)), (tp, aI cI (1300) (T1)), (bl, aI cI (1300) (B1)), (pr, aI cI (6) (P1))] H := hP
    have hD : va_D A [(mo, mo_ fg le sg tp bl pr rs (((nn : Nat) : Int)) (1) (sv) (((peR s9 : Nat) : Int)) (peT s9) (((peH s9 : Nat) : Int)) (0)), (fg, aI cI (52200) (G)), (le, aI cI (190) (L1)), (sg, aI cI (90) (S1)), (tp, aI cI (1300) (T1)), (bl, aI cI (1300) (B1)), (pr, aI cI (6) (P1))] := hD
    refine lv_aload_n hx hb dX11_eliminate_284 rfl (lv_at hl 0 rfl) ?_
    refine lv_iconst (v := iZ 1) hx hb dX11_eliminate_285 rfl ?_
    refine va_put (D := D) (ci := 11) (v := .int (iZ (1))) (ty := tyX11 7) (C := RX11) (T := TX11) (N := 14) hx hb hts hin11 tyX11 tyX11_ok nmX11 hown hK hP hD hS 0 rfl rfl 7 (by decide) q_f_RX11_151_LimbSolverModel_solvable_Z (fun _ h9 => h9) rfl (tyX11_ok 7 (by decide)) rfl rfl (Nat.le_of_ble_eq_true rfl) dX11_eliminate_286 (fun H locs hP hD hS => ?_)
    have hP : va_P D vwCl [(mo, mo_ fg le sg tp bl pr rs (((nn : Nat) : Int)) (1) (1) (((peR s9 : Nat) : Int)) (peT s9) (((peH s9 : Nat) : Int)) (0)), (fg, aI cI (52200) (G)), (le, aI cI (190) (L1)), (sg, aI cI (90) (S1)), (tp, aI cI (1300) (T1)), (bl, aI cI (1300) (B1)), (pr, aI cI (6) (P1))] H := hP
    have hD : va_D A [(mo, mo_ fg le sg tp bl pr rs (((nn : Nat) : Int)) (1) (1) (((peR s9 : Nat) : Int)) (peT s9) (((peH s9 : Nat) : Int)) (0)), (fg, aI cI (52200) (G)), (le, aI cI (190) (L1)), (sg, aI cI (90) (S1)), (tp, aI cI (1300) (T1)), (bl, aI cI (1300) (B1)), (pr, aI cI (6) (P1))] := hD
    refine lv_aload_n hx hb dX11_eliminate_289 rfl (lv_at hl 0 rfl) ?_
    refine va_get (D := D) (ci := 11) (v := .int (iZ (((peR s9 : Nat) : Int)))) (C := RX11) (T := TX11) (N := 14) hx hb hts hin11 hown hK hP 0 rfl rfl 8 (by decide) q_f_RX11_136_LimbSolverModel_rank_I (fun _ h9 => h9) rfl dX11_eliminate_290 ?_
    refine lv_istore_n (lv' := [(2, .int (iZ (((peR s9 : Nat) : Int)))), (0, .ref (mo)), (1, .int (iZ (cp)))]) hx hb dX11_eliminate_293 rfl hl (by decide) rfl (fun ls hl => ?_)
    exact slp (nn - peR s9) 0 G L1 S1 T1 B1 P1 H locs ls (by omega) hke hMc hPR hcap hP hD hS (lv_sub hl [0, 1, 2] rfl)
  have j269 : ∀ (c9 : Nat) (G : Nat → Int) (L1 : Nat → Int) (S1 : Nat → Int) (T1 : Nat → Int) (B1 : Nat → Int) (P1 : Nat → Int) (H : Heap) (locs : List Loc) (ls : Array Slot), (c9 ≤ nn) → (c9 = nn ∨ cp < ((peH (pe V nn c9) : Nat) : Int)) → (peH (pe V nn c9) ≤ 100800) → (∀ g : Nat, g < 90 → g < 42 → md_ef F Ln Sg G L1 S1 g) → (md_A G L1 S1 42 (pe_fl (peM (pe V nn c9)))) → (∀ j : Nat, j < c9 → P1 j = peP (pe V nn c9) j) →  va_P D vwCl [(mo, mo_ fg le sg tp bl pr rs (((nn : Nat) : Int)) (0) (sv) (((peR (pe V nn c9) : Nat) : Int)) (peT (pe V nn c9)) (((peH (pe V nn c9) : Nat) : Int)) (0)), (fg, aI cI (52200) (G)), (le, aI cI (190) (L1)), (sg, aI cI (90) (S1)), (tp, aI cI (1300) (T1)), (bl, aI cI (1300) (B1)), (pr, aI cI (6) (P1))] H → va_D A [(mo, mo_ fg le sg tp bl pr rs (((nn : Nat) : Int)) (0) (sv) (((peR (pe V nn c9) : Nat) : Int)) (peT (pe V nn c9)) (((peH (pe V nn c9) : Nat) : Int)) (0)), (fg, aI cI (52200) (G)), (le, aI cI (190) (L1)), (sg, aI cI (90) (S1)), (tp, aI cI (1300) (T1)), (bl, aI cI (1300) (B1)), (pr, aI cI (6) (P1))] → va_S A s.heap H locs → lv_has ls 5 [(0, .ref (mo)), (1, .int (iZ (cp)))] → W zp l ze (zRm 9 290) s zm args below meth zc H locs 0 0 Q (F0 zm 269 ls []) := by
    intro c9 G L1 S1 T1 B1 P1 H locs ls hcn hst hmb hke hMc hPR hP hD hS hl
    refine lv_aload_n hx hb dX11_eliminate_269 rfl (lv_at hl 0 rfl) ?_
    refine va_get (D := D) (ci := 11) (v := .int (iZ (((peH (pe V nn c9) : Nat) : Int)))) (C := RX11) (T := TX11) (N := 14) hx hb hts hin11 hown hK hP 0 rfl rfl 10 (by decide) q_f_RX11_142_LimbSolverModel_most_I (fun _ h9 => h9) rfl dX11_eliminate_270 ?_
    refine lv_iload_n hx hb dX11_eliminate_273 rfl (lv_at hl 1 rfl) ?_
    refine zr_icmp_le hx hb 279 ⟨by omega, by omega⟩ hcp9 dX11_eliminate_274 (by decide) (fun h_274 => ?_) (fun h_274 => ?_)
    · have hcn2 : c9 = nn := by omega
      have hse : s9 = pe V nn c9 := by rw [hs9, hcn2]
      exact j279 G L1 S1 T1 B1 P1 H locs ls hke (by rw [hse]; exact hMc) (by rw [hse]; exact fun j hj => hPR j (by omega)) (by rw [hse]; exact h_274) (by rw [hse]; exact hP) (by rw [hse]; exact hD) hS (lv_sub hl [0, 1] rfl)
    · refine lv_iconst (v := iZ (-1)) hx hb dX11_eliminate_277 rfl ?_
      exact zr_iret hQ hx hb hr hlk dX11_eliminate_278 hK hP hD hS (by omega) (by omega) ⟨by omega, by omega⟩ (by rw [← hs9]; exact ⟨G, L1, S1, T1, B1, P1, 0, _, _, _, _, rfl, hke, Or.inr ⟨by have q := pe_Hm V nn c9 (nn - c9); rw [show c9 + (nn - c9) = nn by omega, ← hs9] at q; omega, rfl, rfl⟩⟩)
  have clp : ∀ (t : Nat) (c9 : Nat) (G : Nat → Int) (L1 : Nat → Int) (S1 : Nat → Int) (T1 : Nat → Int) (B1 : Nat → Int) (P1 : Nat → Int) (H : Heap) (locs : List Loc) (ls : Array Slot), (c9 + t = nn) → (peH (pe V nn c9) ≤ 100800) → (∀ g : Nat, g < 90 → g < 42 → md_ef F Ln Sg G L1 S1 g) → (md_A G L1 S1 42 (pe_fl (peM (pe V nn c9)))) → (∀ j : Nat, j < c9 → P1 j = peP (pe V nn c9) j) →  va_P D vwCl [(mo, mo_ fg le sg tp bl pr rs (((nn : Nat) : Int)) (0) (sv) (((peR (pe V nn c9) : Nat) : Int)) (peT (pe V nn c9)) (((peH (pe V nn c9) : Nat) : Int)) (0)), (fg, aI cI (52200) (G)), (le, aI cI (190) (L1)), (sg, aI cI (90) (S1)), (tp, aI cI (1300) (T1)), (bl, aI cI (1300) (B1)), (pr, aI cI (6) (P1))] H → va_D A [(mo, mo_ fg le sg tp bl pr rs (((nn : Nat) : Int)) (0) (sv) (((peR (pe V nn c9) : Nat) : Int)) (peT (pe V nn c9)) (((peH (pe V nn c9) : Nat) : Int)) (0)), (fg, aI cI (52200) (G)), (le, aI cI (190) (L1)), (sg, aI cI (90) (S1)), (tp, aI cI (1300) (T1)), (bl, aI cI (1300) (B1)), (pr, aI cI (6) (P1))] → va_S A s.heap H locs → lv_has ls 5 [(2, .int (iZ (((c9 : Nat) : Int)))), (0, .ref (mo)), (1, .int (iZ (cp)))] → W zp l ze (zRm 9 290) s zm args below meth zc H locs 0 0 Q (F0 zm 78 ls []) := by
    intro t
    induction t with
    | zero =>
      intro c9 G L1 S1 T1 B1 P1 H locs ls hct hmb hke hMc hPR hP hD hS hl
      refine lv_iload_n hx hb dX11_eliminate_78 rfl (lv_at hl 0 rfl) ?_
      refine lv_aload_n hx hb dX11_eliminate_79 rfl (lv_at hl 1 rfl) ?_
      refine va_get (D := D) (ci := 11) (v := .int (iZ (((nn : Nat) : Int)))) (C := RX11) (T := TX11) (N := 14) hx hb hts hin11 hown hK hP 0 rfl rfl 5 (by decide) q_f_RX11_26_LimbSolverModel_n_I (fun _ h9 => h9) rfl dX11_eliminate_80 ?_
      refine zr_icmp_ge hx hb 269 ⟨by omega, by omega⟩ ⟨by omega, by omega⟩ dX11_eliminate_83 (by decide) (fun h_83 => ?_) (fun h_83 => ?_)
      · exact j269 c9 G L1 S1 T1 B1 P1 H locs ls (by omega) (Or.inl (by omega)) hmb hke hMc hPR hP hD hS (lv_sub hl [1, 2] rfl)
      · exfalso; omega
    | succ t ih =>
      intro c9 G L1 S1 T1 B1 P1 H locs ls hct hmb hke hMc hPR hP hD hS hl
      have hVc := pe_ok hT h1n hn c9 (by omega)
      have hVs := pe_ok hT h1n hn (c9 + 1) (by omega)
      have hrn : peR (pe V nn c9) ≤ nn := hVc.1.2.1
      have j233 : ∀ (G2 : Nat → Int) (L2 : Nat → Int) (S2 : Nat → Int) (T2 : Nat → Int) (B2 : Nat → Int) (P2 : Nat → Int) (H : Heap) (locs : List Loc) (ls : Array Slot), (∀ g : Nat, g < 90 → g < 42 → md_ef F Ln Sg G2 L2 S2 g) → (md_A G2 L2 S2 42 (pe_fl (peM (pe V nn (c9 + 1))))) → (∀ j : Nat, j < c9 + 1 → P2 j = peP (pe V nn (c9 + 1)) j) → (max (peH (pe V nn c9)) (pe_mt nn (peM (pe V nn (c9 + 1)))) = peH (pe V nn (c9 + 1))) →  va_P D vwCl [(mo, mo_ fg le sg tp bl pr rs (((nn : Nat) : Int)) (0) (sv) (((peR (pe V nn (c9 + 1)) : Nat) : Int)) (peT (pe V nn (c9 + 1))) (((peH (pe V nn c9) : Nat) : Int)) (0)), (fg, aI cI (52200) (G2)), (le, aI cI (190) (L2)), (sg, aI cI (90) (S2)), (tp, aI cI (1300) (T2)), (bl, aI cI (1300) (B2)), (pr, aI cI (6) (P2))] H → va_D A [(mo, mo_ fg le sg tp bl pr rs (((nn : Nat) : Int)) (0) (sv) (((peR (pe V nn (c9 + 1)) : Nat) : Int)) (peT (pe V nn (c9 + 1))) (((peH (pe V nn c9) : Nat) : Int)) (0)), (fg, aI cI (52200) (G2)), (le, aI cI (190) (L2)), (sg, aI cI (90) (S2)), (tp, aI cI (1300) (T2)), (bl, aI cI (1300) (B2)), (pr, aI cI (6) (P2))] → va_S A s.heap H locs → lv_has ls 5 [(2, .int (iZ (((c9 : Nat) : Int)))), (0, .ref (mo)), (1, .int (iZ (cp)))] → W zp l ze (zRm 9 290) s zm args below meth zc H locs 0 0 Q (F0 zm 233 ls []) := by
        intro G2 L2 S2 T2 B2 P2 H locs ls hke2 hMc2 hPR2 hmx hP hD hS hl
        have hmt := mta_le hMc2 (by decide) hn
        have hmt2 : pe_mt nn (peM (pe V nn (c9 + 1))) = mta (pe_fl (peM (pe V nn (c9 + 1)))) nn nn := rfl
        rw [hmt2] at hmx
        refine lv_aload_n hx hb dX11_eliminate_233 rfl (lv_at hl 1 rfl) ?_
        refine lv_bipush (v := iZ 42) hx hb dX11_eliminate_234 (by decide) ?_
        refine zr_eqi (((42 : Nat) : Int)) (by rfl) ?_
        refine zc_Vi (As := [.int (iZ (((42 : Nat) : Int)))]) (rest := []) (wr := [(fg, aI cI (52200) (G2)), (sg, aI cI (90) (S2)), (tp, aI cI (1300) (T2)), (bl, aI cI (1300) (B2)), (pr, aI cI (6) (P2))]) ⟨hx, hb, hml, hown, hts⟩ (c_meterOf l D cI cJ cE cF cR mo fg le sg tp bl pr rs nn (0) sv (((peR (pe V nn (c9 + 1)) : Nat) : Int)) (peT (pe V nn (c9 + 1))) (((peH (pe V nn c9) : Nat) : Int)) (0) 42 G2 L2 S2 (pe_fl (peM (pe V nn (c9 + 1)))) hn (by decide) (hMc2)) (cwV 1 hts gX11_eliminate_X11_meterOf rfl rfl rfl (by decide +kernel) ⟨Nat.le_of_ble_eq_true rfl, Nat.le_of_ble_eq_true rfl⟩) hN hK hP hD hS hA [0, 2] [1, 3, 4, 5, 6] rfl rfl (by decide) (by decide) (by decide) (q0 := 0) (ci := 11) rfl rfl rfl rfl hl.1 (Nat.le_of_ble_eq_true rfl) dX11_eliminate_236 ⟨by decide, by decide⟩ (fun z236 w1 H locs hz236 hp hP hD hS => ?_)
        obtain ⟨hw9, hr0⟩ := hp
        subst hw9
        subst hr0
        have hP := hP.sub (ws' := [(mo, mo_ fg le sg tp bl pr rs (((nn : Nat) : Int)) (0) (sv) (((peR (pe V nn (c9 + 1)) : Nat) : Int)) (peT (pe V nn (c9 + 1))) (((peH (pe V nn c9) : Nat) : Int)) (0)), (fg, aI cI (52200) (G2)), (le, aI cI (190) (L2)), (sg, aI cI (90) (S2)), (tp, aI cI (1300) (T2)), (bl, aI cI (1300) (B2)), (pr, aI cI (6) (P2))]) [5, 0, 6, 1, 2, 3, 4] rfl
        have hD := hD.sub (ws' := [(mo, mo_ fg le sg tp bl pr rs (((nn : Nat) : Int)) (0) (sv) (((peR (pe V nn (c9 + 1)) : Nat) : Int)) (peT (pe V nn (c9 + 1))) (((peH (pe V nn c9) : Nat) : Int)) (0)), (fg, aI cI (52200) (G2)), (le, aI cI (190) (L2)), (sg, aI cI (90) (S2)), (tp, aI cI (1300) (T2)), (bl, aI cI (1300) (B2)), (pr, aI cI (6) (P2))]) [5, 0, 6, 1, 2, 3, 4] (by decide) rfl
        refine lv_istore (lv' := [(4, .int (iZ (((mta (pe_fl (peM (pe V nn (c9 + 1)))) nn nn : Nat) : Int)))), (2, .int (iZ (((c9 : Nat) : Int)))), (0, .ref (mo)), (1, .int (iZ (cp)))]) hx hb dX11_eliminate_239 hl (by decide) rfl (fun ls hl => ?_)
        refine lv_aload_n hx hb dX11_eliminate_241 rfl (lv_at hl 2 rfl) ?_
        refine lv_iload hx hb dX11_eliminate_242 (lv_at hl 0 rfl) ?_
        refine lv_aload_n hx hb dX11_eliminate_244 rfl (lv_at hl 2 rfl) ?_
        refine va_get (D := D) (ci := 11) (v := .int (iZ (((peH (pe V nn c9) : Nat) : Int)))) (C := RX11) (T := TX11) (N := 14) hx hb hts hin11 hown hK hP 0 rfl rfl 10 (by decide) q_f_RX11_142_LimbSolverModel_most_I (fun _ h9 => h9) rfl dX11_eliminate_245 ?_
        refine zr_icmp_le hx hb 256 ⟨by omega, by omega⟩ ⟨by omega, by omega⟩ dX11_eliminate_248 (by decide) (fun h_248 => ?_) (fun h_248 => ?_)
        · refine lv_aload_n hx hb dX11_eliminate_256 rfl (lv_at hl 2 rfl) ?_
          refine va_get (D := D) (ci := 11) (v := .int (iZ (((peH (pe V nn c9) : Nat) : Int)))) (C := RX11) (T := TX11) (N := 14) hx hb hts hin11 hown hK hP 0 rfl rfl 10 (by decide) q_f_RX11_142_LimbSolverModel_most_I (fun _ h9 => h9) rfl dX11_eliminate_257 ?_
          refine zr_eqi (((peH (pe V nn (c9 + 1)) : Nat) : Int)) (by omega) ?_
          refine va_put (D := D) (ci := 11) (v := .int (iZ (((peH (pe V nn (c9 + 1)) : Nat) : Int)))) (ty := tyX11 10) (C := RX11) (T := TX11) (N := 14) hx hb hts hin11 tyX11 tyX11_ok nmX11 hown hK hP hD hS 0 rfl rfl 10 (by decide) q_f_RX11_142_LimbSolverModel_most_I (fun _ h9 => h9) rfl (tyX11_ok 10 (by decide)) rfl rfl (Nat.le_of_ble_eq_true rfl) dX11_eliminate_260 (fun H locs hP hD hS => ?_)
          have hP : va_P D vwCl [(mo, mo_ fg le sg tp bl pr rs (((nn : Nat) : Int)) (0) (sv) (((peR (pe V nn (c9 + 1)) : Nat) : Int)) (peT (pe V nn (c9 + 1))) (((peH (pe V nn (c9 + 1)) : Nat) : Int)) (0)), (fg, aI cI (52200) (G2)), (le, aI cI (190) (L2)), (sg, aI cI (90) (S2)), (tp, aI cI (1300) (T2)), (bl, aI cI (1300) (B2)), (pr, aI cI (6) (P2))] H := hP
          have hD : va_D A [(mo, mo_ fg le sg tp bl pr rs (((nn : Nat) : Int)) (0) (sv) (((peR (pe V nn (c9 + 1)) : Nat) : Int)) (peT (pe V nn (c9 + 1))) (((peH (pe V nn (c9 + 1)) : Nat) : Int)) (0)), (fg, aI cI (52200) (G2)), (le, aI cI (190) (L2)), (sg, aI cI (90) (S2)), (tp, aI cI (1300) (T2)), (bl, aI cI (1300) (B2)), (pr, aI cI (6) (P2))] := hD
          refine lv_iinc (v := iZ (((c9 + 1 : Nat) : Int))) (lv' := [(2, .int (iZ (((c9 + 1 : Nat) : Int)))), (4, .int (iZ (((mta (pe_fl (peM (pe V nn (c9 + 1)))) nn nn : Nat) : Int)))), (0, .ref (mo)), (1, .int (iZ (cp)))]) hx hb dX11_eliminate_263 hl (k := 1) rfl (by rw [show ((c9 + 1 : Nat) : Int) = ((c9 : Nat) : Int) + 1 by omega]; exact iZ_add _ _) (by decide) rfl (fun ls hl => ?_)
          refine lv_goto (tgt := 78) hx hb dX11_eliminate_266 (by decide) ?_
          exact ih (c9 + 1) G2 L2 S2 T2 B2 P2 H locs ls (by omega) (by omega) hke2 hMc2 hPR2 hP hD hS (lv_sub hl [0, 2, 3] rfl)
        · refine lv_iload hx hb dX11_eliminate_251 (lv_at hl 0 rfl) ?_
          refine zr_eqi (((peH (pe V nn (c9 + 1)) : Nat) : Int)) (by omega) ?_
          refine lv_goto (tgt := 260) hx hb dX11_eliminate_253 (by decide) ?_
          refine va_put (D := D) (ci := 11) (v := .int (iZ (((peH (pe V nn (c9 + 1)) : Nat) : Int)))) (ty := tyX11 10) (C := RX11) (T := TX11) (N := 14) hx hb hts hin11 tyX11 tyX11_ok nmX11 hown hK hP hD hS 0 rfl rfl 10 (by decide) q_f_RX11_142_LimbSolverModel_most_I (fun _ h9 => h9) rfl (tyX11_ok 10 (by decide)) rfl rfl (Nat.le_of_ble_eq_true rfl) dX11_eliminate_260 (fun H locs hP hD hS => ?_)
          have hP : va_P D vwCl [(mo, mo_ fg le sg tp bl pr rs (((nn : Nat) : Int)) (0) (sv) (((peR (pe V nn (c9 + 1)) : Nat) : Int)) (peT (pe V nn (c9 + 1))) (((peH (pe V nn (c9 + 1)) : Nat) : Int)) (0)), (fg, aI cI (52200) (G2)), (le, aI cI (190) (L2)), (sg, aI cI (90) (S2)), (tp, aI cI (1300) (T2)), (bl, aI cI (1300) (B2)), (pr, aI cI (6) (P2))] H := hP
          have hD : va_D A [(mo, mo_ fg le sg tp bl pr rs (((nn : Nat) : Int)) (0) (sv) (((peR (pe V nn (c9 + 1)) : Nat) : Int)) (peT (pe V nn (c9 + 1))) (((peH (pe V nn (c9 + 1)) : Nat) : Int)) (0)), (fg, aI cI (52200) (G2)), (le, aI cI (190) (L2)), (sg, aI cI (90) (S2)), (tp, aI cI (1300) (T2)), (bl, aI cI (1300) (B2)), (pr, aI cI (6) (P2))] := hD
          refine lv_iinc (v := iZ (((c9 + 1 : Nat) : Int))) (lv' := [(2, .int (iZ (((c9 + 1 : Nat) : Int)))), (4, .int (iZ (((mta (pe_fl (peM (pe V nn (c9 + 1)))) nn nn : Nat) : Int)))), (0, .ref (mo)), (1, .int (iZ (cp)))]) hx hb dX11_eliminate_263 hl (k := 1) rfl (by rw [show ((c9 + 1 : Nat) : Int) = ((c9 : Nat) : Int) + 1 by omega]; exact iZ_add _ _) (by decide) rfl (fun ls hl => ?_)
          refine lv_goto (tgt := 78) hx hb dX11_eliminate_266 (by decide) ?_
          exact ih (c9 + 1) G2 L2 S2 T2 B2 P2 H locs ls (by omega) (by omega) hke2 hMc2 hPR2 hP hD hS (lv_sub hl [0, 2, 3] rfl)
      have j129 : ∀ (R9 : Nat) (H : Heap) (locs : List Loc) (ls : Array Slot), (pe_row (pe V nn c9) nn c9 = R9) → va_P D vwCl [(mo, mo_ fg le sg tp bl pr rs (((nn : Nat) : Int)) (0) (sv) (((peR (pe V nn c9) : Nat) : Int)) (peT (pe V nn c9)) (((peH (pe V nn c9) : Nat) : Int)) (0)), (fg, aI cI (52200) (G)), (le, aI cI (190) (L1)), (sg, aI cI (90) (S1)), (tp, aI cI (1300) (T1)), (bl, aI cI (1300) (B1)), (pr, aI cI (6) (P1))] H → va_D A [(mo, mo_ fg le sg tp bl pr rs (((nn : Nat) : Int)) (0) (sv) (((peR (pe V nn c9) : Nat) : Int)) (peT (pe V nn c9)) (((peH (pe V nn c9) : Nat) : Int)) (0)), (fg, aI cI (52200) (G)), (le, aI cI (190) (L1)), (sg, aI cI (90) (S1)), (tp, aI cI (1300) (T1)), (bl, aI cI (1300) (B1)), (pr, aI cI (6) (P1))] → va_S A s.heap H locs → lv_has ls 5 [(3, .int (iZ (((R9 : Nat) : Int)))), (2, .int (iZ (((c9 : Nat) : Int)))), (0, .ref (mo)), (1, .int (iZ (cp)))] → W zp l ze (zRm 9 290) s zm args below meth zc H locs 0 0 Q (F0 zm 129 ls []) := by
        intro R9 H locs ls hR hP hD hS hl
        have hsp := pe_row_spec (s := (pe V nn c9)) (c := c9) hrn
        rw [hR] at hsp
        have hsp1 := hsp.1
        have hsp2 := hsp.2.1
        by_cases hRn : R9 < nn
        · skip
          have hyes : pe_row (pe V nn c9) nn c9 < nn := by rw [hR]; exact hRn
          have ey := pe_y hyes
          have eM : peM (pe V nn (c9 + 1)) = pe_cl nn (pe_sw nn (peM (pe V nn c9)) R9 (peR (pe V nn c9))) (peR (pe V nn c9)) c9 := by rw [ey, ← hR]; rfl
          have eR : peR (pe V nn (c9 + 1)) = peR (pe V nn c9) + 1 := by rw [ey]; rfl
          have eT : peT (pe V nn (c9 + 1)) = if R9 = peR (pe V nn c9) then peT (pe V nn c9) else - peT (pe V nn c9) := by rw [ey, ← hR]; rfl
          have eP : peP (pe V nn (c9 + 1)) = zu (peP (pe V nn c9)) c9 ((peR (pe V nn c9) : Nat) : Int) := by rw [ey]; rfl
          have hmx : max (peH (pe V nn c9)) (pe_mt nn (peM (pe V nn (c9 + 1)))) = peH (pe V nn (c9 + 1)) := by rw [ey]; rfl
          have hp0 : (pe_sw nn (peM (pe V nn c9)) R9 (peR (pe V nn c9))) (peR (pe V nn c9)) c9 ≠ 0 := by rw [pe_sw_t (by omega)]; exact hsp.2.2.2 hRn
          obtain ⟨P2, hP2⟩ : ∃ P2 : Nat → Int, P2 = zu P1 c9 ((peR (pe V nn c9) : Nat) : Int) := ⟨_, rfl⟩
          have hPR2 : ∀ j : Nat, j < c9 + 1 → P2 j = peP (pe V nn (c9 + 1)) j := fun j hj => by
            rw [hP2, eP]
            by_cases q : j = c9
            · rw [q, zu_s, zu_s]
            · rw [zu_n _ _ q, zu_n _ _ q]; exact hPR j (by omega)
          have klp : ∀ (t : Nat) (k : Nat) (G2 : Nat → Int) (L2 : Nat → Int) (S2 : Nat → Int) (T2 : Nat → Int) (B2 : Nat → Int) (H : Heap) (locs : List Loc) (ls : Array Slot), (k + t = nn) → (∀ g : Nat, g < 90 → g < 42 → md_ef F Ln Sg G2 L2 S2 g) → (md_A G2 L2 S2 42 (pe_fl (pe_clq k nn (pe_sw nn (peM (pe V nn c9)) R9 (peR (pe V nn c9))) (peR (pe V nn c9)) c9))) →  va_P D vwCl [(mo, mo_ fg le sg tp bl pr rs (((nn : Nat) : Int)) (0) (sv) (((peR (pe V nn c9) : Nat) : Int)) (peT (pe V nn (c9 + 1))) (((peH (pe V nn c9) : Nat) : Int)) (0)), (fg, aI cI (52200) (G2)), (le, aI cI (190) (L2)), (sg, aI cI (90) (S2)), (tp, aI cI (1300) (T2)), (bl, aI cI (1300) (B2)), (pr, aI cI (6) (P2))] H → va_D A [(mo, mo_ fg le sg tp bl pr rs (((nn : Nat) : Int)) (0) (sv) (((peR (pe V nn c9) : Nat) : Int)) (peT (pe V nn (c9 + 1))) (((peH (pe V nn c9) : Nat) : Int)) (0)), (fg, aI cI (52200) (G2)), (le, aI cI (190) (L2)), (sg, aI cI (90) (S2)), (tp, aI cI (1300) (T2)), (bl, aI cI (1300) (B2)), (pr, aI cI (6) (P2))] → va_S A s.heap H locs → lv_has ls 5 [(4, .int (iZ (((k : Nat) : Int)))), (3, .int (iZ (((R9 : Nat) : Int)))), (2, .int (iZ (((c9 : Nat) : Int)))), (0, .ref (mo)), (1, .int (iZ (cp)))] → W zp l ze (zRm 9 290) s zm args below meth zc H locs 0 0 Q (F0 zm 188 ls []) := by
            intro t
            induction t with
            | zero =>
              intro k G2 L2 S2 T2 B2 H locs ls hkt hke2 hMk hP hD hS hl
              refine lv_iload hx hb dX11_eliminate_188 (lv_at hl 0 rfl) ?_
              refine lv_aload_n hx hb dX11_eliminate_190 rfl (lv_at hl 3 rfl) ?_
              refine va_get (D := D) (ci := 11) (v := .int (iZ (((nn : Nat) : Int)))) (C := RX11) (T := TX11) (N := 14) hx hb hts hin11 hown hK hP 0 rfl rfl 5 (by decide) q_f_RX11_26_LimbSolverModel_n_I (fun _ h9 => h9) rfl dX11_eliminate_191 ?_
              refine zr_icmp_ge hx hb 223 ⟨by omega, by omega⟩ ⟨by omega, by omega⟩ dX11_eliminate_194 (by decide) (fun h_194 => ?_) (fun h_194 => ?_)
              · refine lv_aload_n hx hb dX11_eliminate_223 rfl (lv_at hl 3 rfl) ?_
                refine lv_dup hx hb dX11_eliminate_224 rfl ?_
                refine va_get (D := D) (ci := 11) (v := .int (iZ (((peR (pe V nn c9) : Nat) : Int)))) (C := RX11) (T := TX11) (N := 14) hx hb hts hin11 hown hK hP 0 rfl rfl 8 (by decide) q_f_RX11_136_LimbSolverModel_rank_I (fun _ h9 => h9) rfl dX11_eliminate_225 ?_
                refine lv_iconst (v := iZ 1) hx hb dX11_eliminate_228 rfl ?_
                refine zr_iadd hx hb dX11_eliminate_229 ?_
                refine zr_eqi (((peR (pe V nn (c9 + 1)) : Nat) : Int)) (by rw [eR]; omega) ?_
                refine va_put (D := D) (ci := 11) (v := .int (iZ (((peR (pe V nn (c9 + 1)) : Nat) : Int)))) (ty := tyX11 8) (C := RX11) (T := TX11) (N := 14) hx hb hts hin11 tyX11 tyX11_ok nmX11 hown hK hP hD hS 0 rfl rfl 8 (by decide) q_f_RX11_136_LimbSolverModel_rank_I (fun _ h9 => h9) rfl (tyX11_ok 8 (by decide)) rfl rfl (Nat.le_of_ble_eq_true rfl) dX11_eliminate_230 (fun H locs hP hD hS => ?_)
                have hP : va_P D vwCl [(mo, mo_ fg le sg tp bl pr rs (((nn : Nat) : Int)) (0) (sv) (((peR (pe V nn (c9 + 1)) : Nat) : Int)) (peT (pe V nn (c9 + 1))) (((peH (pe V nn c9) : Nat) : Int)) (0)), (fg, aI cI (52200) (G2)), (le, aI cI (190) (L2)), (sg, aI cI (90) (S2)), (tp, aI cI (1300) (T2)), (bl, aI cI (1300) (B2)), (pr, aI cI (6) (P2))] H := hP
                have hD : va_D A [(mo, mo_ fg le sg tp bl pr rs (((nn : Nat) : Int)) (0) (sv) (((peR (pe V nn (c9 + 1)) : Nat) : Int)) (peT (pe V nn (c9 + 1))) (((peH (pe V nn c9) : Nat) : Int)) (0)), (fg, aI cI (52200) (G2)), (le, aI cI (190) (L2)), (sg, aI cI (90) (S2)), (tp, aI cI (1300) (T2)), (bl, aI cI (1300) (B2)), (pr, aI cI (6) (P2))] := hD
                exact j233 G2 L2 S2 T2 B2 P2 H locs ls hke2 (by rw [eM, ← show k = nn by omega]; rw [show k = nn by omega] at hMk; rw [show k = nn by omega]; exact hMk) hPR2 hmx hP hD hS (lv_sub hl [2, 3, 4] rfl)
              · exfalso; omega
            | succ t ih =>
              intro k G2 L2 S2 T2 B2 H locs ls hkt hke2 hMk hP hD hS hl
              have ih3 := ih
              refine lv_iload hx hb dX11_eliminate_188 (lv_at hl 0 rfl) ?_
              refine lv_aload_n hx hb dX11_eliminate_190 rfl (lv_at hl 3 rfl) ?_
              refine va_get (D := D) (ci := 11) (v := .int (iZ (((nn : Nat) : Int)))) (C := RX11) (T := TX11) (N := 14) hx hb hts hin11 hown hK hP 0 rfl rfl 5 (by decide) q_f_RX11_26_LimbSolverModel_n_I (fun _ h9 => h9) rfl dX11_eliminate_191 ?_
              refine zr_icmp_ge hx hb 223 ⟨by omega, by omega⟩ ⟨by omega, by omega⟩ dX11_eliminate_194 (by decide) (fun h_194 => ?_) (fun h_194 => ?_)
              · exfalso; omega
              · refine lv_iload hx hb dX11_eliminate_197 (lv_at hl 0 rfl) ?_
                refine lv_aload_n hx hb dX11_eliminate_199 rfl (lv_at hl 3 rfl) ?_
                refine va_get (D := D) (ci := 11) (v := .int (iZ (((peR (pe V nn c9) : Nat) : Int)))) (C := RX11) (T := TX11) (N := 14) hx hb hts hin11 hown hK hP 0 rfl rfl 8 (by decide) q_f_RX11_136_LimbSolverModel_rank_I (fun _ h9 => h9) rfl dX11_eliminate_200 ?_
                refine zr_icmp_eq hx hb 217 ⟨by omega, by omega⟩ ⟨by omega, by omega⟩ dX11_eliminate_203 (by decide) (fun h_203 => ?_) (fun h_203 => ?_)
                · refine lv_iinc (v := iZ (((k + 1 : Nat) : Int))) (lv' := [(4, .int (iZ (((k + 1 : Nat) : Int)))), (3, .int (iZ (((R9 : Nat) : Int)))), (2, .int (iZ (((c9 : Nat) : Int)))), (0, .ref (mo)), (1, .int (iZ (cp)))]) hx hb dX11_eliminate_217 hl (k := 0) rfl (by rw [show ((k + 1 : Nat) : Int) = ((k : Nat) : Int) + 1 by omega]; exact iZ_add _ _) (by decide) rfl (fun ls hl => ?_)
                  refine lv_goto (tgt := 188) hx hb dX11_eliminate_220 (by decide) ?_
                  exact ih3 (k + 1) G2 L2 S2 T2 B2 H locs ls (by omega) hke2 (by rw [show k = peR (pe V nn c9) by omega, pe_clq_e, ← show k = peR (pe V nn c9) by omega]; rw [show k = peR (pe V nn c9) by omega] at hMk; rw [show k = peR (pe V nn c9) by omega]; exact hMk) hP hD hS (lv_sub hl [0, 1, 2, 3, 4] rfl)
                · have hkr : k ≠ peR (pe V nn c9) := by omega
                  refine lv_aload_n hx hb dX11_eliminate_206 rfl (lv_at hl 3 rfl) ?_
                  refine lv_iload hx hb dX11_eliminate_207 (lv_at hl 0 rfl) ?_
                  refine lv_aload_n hx hb dX11_eliminate_209 rfl (lv_at hl 3 rfl) ?_
                  refine va_get (D := D) (ci := 11) (v := .int (iZ (((peR (pe V nn c9) : Nat) : Int)))) (C := RX11) (T := TX11) (N := 14) hx hb hts hin11 hown hK hP 0 rfl rfl 8 (by decide) q_f_RX11_136_LimbSolverModel_rank_I (fun _ h9 => h9) rfl dX11_eliminate_210 ?_
                  refine lv_iload_n hx hb dX11_eliminate_213 rfl (lv_at hl 2 rfl) ?_
                  refine zc_Vv (As := [.int (iZ (((k : Nat) : Int))), .int (iZ (((peR (pe V nn c9) : Nat) : Int))), .int (iZ (((c9 : Nat) : Int)))]) (rest := []) (wr := [(pr, aI cI (6) (P2))]) ⟨hx, hb, hml, hown, hts⟩ (c_clearCell l D cI cJ cE cF cR mo fg le sg tp bl pr rs nn (0) sv (((peR (pe V nn c9) : Nat) : Int)) (peT (pe V nn (c9 + 1))) (((peH (pe V nn c9) : Nat) : Int)) (0) k (peR (pe V nn c9)) c9 G2 L2 S2 T2 B2 (pe_clq k nn (pe_sw nn (peM (pe V nn c9)) R9 (peR (pe V nn c9))) (peR (pe V nn c9)) c9) hn (by omega) (by omega) (by omega) hkr (by rw [pe_clq_r]; exact hp0) hMk (fun j hj => by rw [pe_clq_new _ _ (by omega) hkr hj, ← eM]; exact peV_b hT hn hVs (by omega) hj)) (cwV 3 hts gX11_eliminate_X11_clearCell rfl rfl rfl (by decide +kernel) ⟨Nat.le_of_ble_eq_true rfl, Nat.le_of_ble_eq_true rfl⟩) hN hK hP hD hS hA [0, 1, 2, 3, 4, 5] [6] rfl rfl (by decide) (by decide) (by decide) (q0 := 0) (ci := 11) rfl rfl rfl rfl hl.1 (Nat.le_of_ble_eq_true rfl) dX11_eliminate_214 ⟨by decide, by decide⟩ (fun w1 H locs hp hP hD hS => ?_)
                  obtain ⟨F3, L3, S3, T3, B3, hw9, hk3, hf3⟩ := hp
                  subst hw9
                  have hP := hP.sub (ws' := [(mo, mo_ fg le sg tp bl pr rs (((nn : Nat) : Int)) (0) (sv) (((peR (pe V nn c9) : Nat) : Int)) (peT (pe V nn (c9 + 1))) (((peH (pe V nn c9) : Nat) : Int)) (0)), (fg, aI cI (52200) (F3)), (le, aI cI (190) (L3)), (sg, aI cI (90) (S3)), (tp, aI cI (1300) (T3)), (bl, aI cI (1300) (B3)), (pr, aI cI (6) (P2))]) [1, 2, 3, 4, 5, 6, 0] rfl
                  have hD := hD.sub (ws' := [(mo, mo_ fg le sg tp bl pr rs (((nn : Nat) : Int)) (0) (sv) (((peR (pe V nn c9) : Nat) : Int)) (peT (pe V nn (c9 + 1))) (((peH (pe V nn c9) : Nat) : Int)) (0)), (fg, aI cI (52200) (F3)), (le, aI cI (190) (L3)), (sg, aI cI (90) (S3)), (tp, aI cI (1300) (T3)), (bl, aI cI (1300) (B3)), (pr, aI cI (6) (P2))]) [1, 2, 3, 4, 5, 6, 0] (by decide) rfl
                  refine lv_iinc (v := iZ (((k + 1 : Nat) : Int))) (lv' := [(4, .int (iZ (((k + 1 : Nat) : Int)))), (3, .int (iZ (((R9 : Nat) : Int)))), (2, .int (iZ (((c9 : Nat) : Int)))), (0, .ref (mo)), (1, .int (iZ (cp)))]) hx hb dX11_eliminate_217 hl (k := 0) rfl (by rw [show ((k + 1 : Nat) : Int) = ((k : Nat) : Int) + 1 by omega]; exact iZ_add _ _) (by decide) rfl (fun ls hl => ?_)
                  refine lv_goto (tgt := 188) hx hb dX11_eliminate_220 (by decide) ?_
                  exact ih3 (k + 1) F3 L3 S3 T3 B3 H locs ls (by omega) (fun g g1 g2 => (hke2 g g1 g2).trans (hk3 g g1 (Or.inl g2))) (by rw [← pe_clq_s _ _ hkr]; exact hf3) hP hD hS (lv_sub hl [0, 1, 2, 3, 4] rfl)
          have j185 : ∀ (G2 : Nat → Int) (L2 : Nat → Int) (S2 : Nat → Int) (H : Heap) (locs : List Loc) (ls : Array Slot), (∀ g : Nat, g < 90 → g < 42 → md_ef F Ln Sg G2 L2 S2 g) → (md_A G2 L2 S2 42 (pe_fl (pe_sw nn (peM (pe V nn c9)) R9 (peR (pe V nn c9))))) →  va_P D vwCl [(mo, mo_ fg le sg tp bl pr rs (((nn : Nat) : Int)) (0) (sv) (((peR (pe V nn c9) : Nat) : Int)) (peT (pe V nn (c9 + 1))) (((peH (pe V nn c9) : Nat) : Int)) (0)), (fg, aI cI (52200) (G2)), (le, aI cI (190) (L2)), (sg, aI cI (90) (S2)), (tp, aI cI (1300) (T1)), (bl, aI cI (1300) (B1)), (pr, aI cI (6) (P2))] H → va_D A [(mo, mo_ fg le sg tp bl pr rs (((nn : Nat) : Int)) (0) (sv) (((peR (pe V nn c9) : Nat) : Int)) (peT (pe V nn (c9 + 1))) (((peH (pe V nn c9) : Nat) : Int)) (0)), (fg, aI cI (52200) (G2)), (le, aI cI (190) (L2)), (sg, aI cI (90) (S2)), (tp, aI cI (1300) (T1)), (bl, aI cI (1300) (B1)), (pr, aI cI (6) (P2))] → va_S A s.heap H locs → lv_has ls 5 [(3, .int (iZ (((R9 : Nat) : Int)))), (2, .int (iZ (((c9 : Nat) : Int)))), (0, .ref (mo)), (1, .int (iZ (cp)))] → W zp l ze (zRm 9 290) s zm args below meth zc H locs 0 0 Q (F0 zm 185 ls []) := by
            intro G2 L2 S2 H locs ls hke2 hMc2 hP hD hS hl
            refine lv_iconst (v := iZ 0) hx hb dX11_eliminate_185 rfl ?_
            refine lv_istore (lv' := [(4, .int (iZ (0))), (3, .int (iZ (((R9 : Nat) : Int)))), (2, .int (iZ (((c9 : Nat) : Int)))), (0, .ref (mo)), (1, .int (iZ (cp)))]) hx hb dX11_eliminate_186 hl (by decide) rfl (fun ls hl => ?_)
            exact klp nn 0 G2 L2 S2 T1 B1 H locs ls (by omega) hke2 (by rw [pe_clq_0]; exact hMc2) hP hD hS (lv_sub hl [0, 1, 2, 3, 4] rfl)
          refine lv_aload_n hx hb dX11_eliminate_129 rfl (lv_at hl 2 rfl) ?_
          refine va_get (D := D) (ci := 11) (v := .ref (pr)) (C := RX11) (T := TX11) (N := 14) hx hb hts hin11 hown hK hP 0 rfl rfl 11 (by decide) q_f_RX11_30_LimbSolverModel_pivotRow_I (fun _ h9 => h9) rfl dX11_eliminate_130 ?_
          refine lv_iload_n hx hb dX11_eliminate_133 rfl (lv_at hl 1 rfl) ?_
          refine lv_iload_n hx hb dX11_eliminate_134 rfl (lv_at hl 0 rfl) ?_
          refine lv_aload_n hx hb dX11_eliminate_135 rfl (lv_at hl 2 rfl) ?_
          refine va_get (D := D) (ci := 11) (v := .int (iZ (((nn : Nat) : Int)))) (C := RX11) (T := TX11) (N := 14) hx hb hts hin11 hown hK hP 0 rfl rfl 5 (by decide) q_f_RX11_26_LimbSolverModel_n_I (fun _ h9 => h9) rfl dX11_eliminate_136 ?_
          refine zr_icmp_ge hx hb 149 ⟨by omega, by omega⟩ ⟨by omega, by omega⟩ dX11_eliminate_139 (by decide) (fun h_139 => ?_) (fun h_139 => ?_)
          · exfalso; omega
          · refine lv_aload_n hx hb dX11_eliminate_142 rfl (lv_at hl 2 rfl) ?_
            refine va_get (D := D) (ci := 11) (v := .int (iZ (((peR (pe V nn c9) : Nat) : Int)))) (C := RX11) (T := TX11) (N := 14) hx hb hts hin11 hown hK hP 0 rfl rfl 8 (by decide) q_f_RX11_136_LimbSolverModel_rank_I (fun _ h9 => h9) rfl dX11_eliminate_143 ?_
            refine lv_goto (tgt := 150) hx hb dX11_eliminate_146 (by decide) ?_
            refine zr_iast hx hb hK hP hD hS 6 0 rfl rfl (c9) (by omega) (by omega) (by omega) dX11_eliminate_150 (fun H locs hP hD hS => ?_)
            have hP : va_P D vwCl [(mo, mo_ fg le sg tp bl pr rs (((nn : Nat) : Int)) (0) (sv) (((peR (pe V nn c9) : Nat) : Int)) (peT (pe V nn c9)) (((peH (pe V nn c9) : Nat) : Int)) (0)), (fg, aI cI (52200) (G)), (le, aI cI (190) (L1)), (sg, aI cI (90) (S1)), (tp, aI cI (1300) (T1)), (bl, aI cI (1300) (B1)), (pr, aI cI (6) (zu (P1) (c9) (((peR (pe V nn c9) : Nat) : Int))))] H := hP
            have hD : va_D A [(mo, mo_ fg le sg tp bl pr rs (((nn : Nat) : Int)) (0) (sv) (((peR (pe V nn c9) : Nat) : Int)) (peT (pe V nn c9)) (((peH (pe V nn c9) : Nat) : Int)) (0)), (fg, aI cI (52200) (G)), (le, aI cI (190) (L1)), (sg, aI cI (90) (S1)), (tp, aI cI (1300) (T1)), (bl, aI cI (1300) (B1)), (pr, aI cI (6) (zu (P1) (c9) (((peR (pe V nn c9) : Nat) : Int))))] := hD
            refine lv_iload_n hx hb dX11_eliminate_151 rfl (lv_at hl 0 rfl) ?_
            refine lv_aload_n hx hb dX11_eliminate_152 rfl (lv_at hl 2 rfl) ?_
            refine va_get (D := D) (ci := 11) (v := .int (iZ (((nn : Nat) : Int)))) (C := RX11) (T := TX11) (N := 14) hx hb hts hin11 hown hK hP 0 rfl rfl 5 (by decide) q_f_RX11_26_LimbSolverModel_n_I (fun _ h9 => h9) rfl dX11_eliminate_153 ?_
            refine zr_icmp_ge hx hb 233 ⟨by omega, by omega⟩ ⟨by omega, by omega⟩ dX11_eliminate_156 (by decide) (fun h_156 => ?_) (fun h_156 => ?_)
            · exfalso; omega
            · refine lv_iload_n hx hb dX11_eliminate_159 rfl (lv_at hl 0 rfl) ?_
              refine lv_aload_n hx hb dX11_eliminate_160 rfl (lv_at hl 2 rfl) ?_
              refine va_get (D := D) (ci := 11) (v := .int (iZ (((peR (pe V nn c9) : Nat) : Int)))) (C := RX11) (T := TX11) (N := 14) hx hb hts hin11 hown hK hP 0 rfl rfl 8 (by decide) q_f_RX11_136_LimbSolverModel_rank_I (fun _ h9 => h9) rfl dX11_eliminate_161 ?_
              refine zr_icmp_eq hx hb 185 ⟨by omega, by omega⟩ ⟨by omega, by omega⟩ dX11_eliminate_164 (by decide) (fun h_164 => ?_) (fun h_164 => ?_)
              · exact j185 G L1 S1 H locs ls hke (by rw [show R9 = peR (pe V nn c9) by omega, pe_sw_same]; exact hMc) (by rw [hP2, eT, if_pos (by omega)]; exact hP) (by rw [hP2, eT, if_pos (by omega)]; exact hD) hS (lv_sub hl [0, 1, 2, 3] rfl)
              · refine lv_aload_n hx hb dX11_eliminate_167 rfl (lv_at hl 2 rfl) ?_
                refine lv_iload_n hx hb dX11_eliminate_168 rfl (lv_at hl 0 rfl) ?_
                refine lv_aload_n hx hb dX11_eliminate_169 rfl (lv_at hl 2 rfl) ?_
                refine va_get (D := D) (ci := 11) (v := .int (iZ (((peR (pe V nn c9) : Nat) : Int)))) (C := RX11) (T := TX11) (N := 14) hx hb hts hin11 hown hK hP 0 rfl rfl 8 (by decide) q_f_RX11_136_LimbSolverModel_rank_I (fun _ h9 => h9) rfl dX11_eliminate_170 ?_
                refine zc_Vv (As := [.int (iZ (((R9 : Nat) : Int))), .int (iZ (((peR (pe V nn c9) : Nat) : Int)))]) (rest := []) (wr := [(tp, aI cI (1300) (T1)), (bl, aI cI (1300) (B1)), (pr, aI cI (6) (zu (P1) (c9) (((peR (pe V nn c9) : Nat) : Int))))]) ⟨hx, hb, hml, hown, hts⟩ (c_exchange l D cI cJ cE cF cR mo fg le sg tp bl pr rs nn (0) sv (((peR (pe V nn c9) : Nat) : Int)) (peT (pe V nn c9)) (((peH (pe V nn c9) : Nat) : Int)) (0) R9 (peR (pe V nn c9)) G L1 S1 (peM (pe V nn c9)) hn (by omega) (by omega) (by omega) hMc) (cwV 2 hts gX11_eliminate_X11_exchange rfl rfl rfl (by decide +kernel) ⟨Nat.le_of_ble_eq_true rfl, Nat.le_of_ble_eq_true rfl⟩) hN hK hP hD hS hA [0, 1, 2, 3] [4, 5, 6] rfl rfl (by decide) (by decide) (by decide) (q0 := 0) (ci := 11) rfl rfl rfl rfl hl.1 (Nat.le_of_ble_eq_true rfl) dX11_eliminate_173 ⟨by decide, by decide⟩ (fun w1 H locs hp hP hD hS => ?_)
                obtain ⟨F3, L3, S3, hw9, hk3, hf3⟩ := hp
                subst hw9
                have hP := hP.sub (ws' := [(mo, mo_ fg le sg tp bl pr rs (((nn : Nat) : Int)) (0) (sv) (((peR (pe V nn c9) : Nat) : Int)) (peT (pe V nn c9)) (((peH (pe V nn c9) : Nat) : Int)) (0)), (fg, aI cI (52200) (F3)), (le, aI cI (190) (L3)), (sg, aI cI (90) (S3)), (tp, aI cI (1300) (T1)), (bl, aI cI (1300) (B1)), (pr, aI cI (6) (zu (P1) (c9) (((peR (pe V nn c9) : Nat) : Int))))]) [3, 4, 5, 6, 0, 1, 2] rfl
                have hD := hD.sub (ws' := [(mo, mo_ fg le sg tp bl pr rs (((nn : Nat) : Int)) (0) (sv) (((peR (pe V nn c9) : Nat) : Int)) (peT (pe V nn c9)) (((peH (pe V nn c9) : Nat) : Int)) (0)), (fg, aI cI (52200) (F3)), (le, aI cI (190) (L3)), (sg, aI cI (90) (S3)), (tp, aI cI (1300) (T1)), (bl, aI cI (1300) (B1)), (pr, aI cI (6) (zu (P1) (c9) (((peR (pe V nn c9) : Nat) : Int))))]) [3, 4, 5, 6, 0, 1, 2] (by decide) rfl
                refine lv_aload_n hx hb dX11_eliminate_176 rfl (lv_at hl 2 rfl) ?_
                refine lv_aload_n hx hb dX11_eliminate_177 rfl (lv_at hl 2 rfl) ?_
                refine va_get (D := D) (ci := 11) (v := .int (iZ (peT (pe V nn c9)))) (C := RX11) (T := TX11) (N := 14) hx hb hts hin11 hown hK hP 0 rfl rfl 9 (by decide) q_f_RX11_139_LimbSolverModel_turns_I (fun _ h9 => h9) rfl dX11_eliminate_178 ?_
                refine zr_ineg hx hb dX11_eliminate_181 ?_
                refine va_put (D := D) (ci := 11) (v := .int (iZ (-(peT (pe V nn c9))))) (ty := tyX11 9) (C := RX11) (T := TX11) (N := 14) hx hb hts hin11 tyX11 tyX11_ok nmX11 hown hK hP hD hS 0 rfl rfl 9 (by decide) q_f_RX11_139_LimbSolverModel_turns_I (fun _ h9 => h9) rfl (tyX11_ok 9 (by decide)) rfl rfl (Nat.le_of_ble_eq_true rfl) dX11_eliminate_182 (fun H locs hP hD hS => ?_)
                have hP : va_P D vwCl [(mo, mo_ fg le sg tp bl pr rs (((nn : Nat) : Int)) (0) (sv) (((peR (pe V nn c9) : Nat) : Int)) (-(peT (pe V nn c9))) (((peH (pe V nn c9) : Nat) : Int)) (0)), (fg, aI cI (52200) (F3)), (le, aI cI (190) (L3)), (sg, aI cI (90) (S3)), (tp, aI cI (1300) (T1)), (bl, aI cI (1300) (B1)), (pr, aI cI (6) (zu (P1) (c9) (((peR (pe V nn c9) : Nat) : Int))))] H := hP
                have hD : va_D A [(mo, mo_ fg le sg tp bl pr rs (((nn : Nat) : Int)) (0) (sv) (((peR (pe V nn c9) : Nat) : Int)) (-(peT (pe V nn c9))) (((peH (pe V nn c9) : Nat) : Int)) (0)), (fg, aI cI (52200) (F3)), (le, aI cI (190) (L3)), (sg, aI cI (90) (S3)), (tp, aI cI (1300) (T1)), (bl, aI cI (1300) (B1)), (pr, aI cI (6) (zu (P1) (c9) (((peR (pe V nn c9) : Nat) : Int))))] := hD
                exact j185 F3 L3 S3 H locs ls (fun g g1 g2 => (hke g g1 g2).trans (hk3 g g1 (Or.inl g2))) hf3 (by rw [hP2, eT, if_neg (by omega)]; exact hP) (by rw [hP2, eT, if_neg (by omega)]; exact hD) hS (lv_sub hl [0, 1, 2, 3] rfl)
        · have hno : ¬ pe_row (pe V nn c9) nn c9 < nn := by rw [hR]; exact hRn
          have en := pe_n hno
          have eM : peM (pe V nn (c9 + 1)) = peM (pe V nn c9) := by rw [en]; rfl
          have eR : peR (pe V nn (c9 + 1)) = peR (pe V nn c9) := by rw [en]; rfl
          have eT : peT (pe V nn (c9 + 1)) = peT (pe V nn c9) := by rw [en]; rfl
          have eP : peP (pe V nn (c9 + 1)) = zu (peP (pe V nn c9)) c9 (-1) := by rw [en]; rfl
          have eH : peH (pe V nn (c9 + 1)) = peH (pe V nn c9) := by rw [en]; rfl
          have hmx : max (peH (pe V nn c9)) (pe_mt nn (peM (pe V nn (c9 + 1)))) = peH (pe V nn (c9 + 1)) := by rw [eM, eH]; exact Nat.max_eq_left hVc.2.2.2.2.2.2.2.1
          have hPR2 : ∀ j : Nat, j < c9 + 1 → zu P1 c9 (-1) j = peP (pe V nn (c9 + 1)) j := fun j hj => by
            rw [eP]
            by_cases q : j = c9
            · rw [q, zu_s, zu_s]
            · rw [zu_n _ _ q, zu_n _ _ q]; exact hPR j (by omega)
          refine lv_aload_n hx hb dX11_eliminate_129 rfl (lv_at hl 2 rfl) ?_
          refine va_get (D := D) (ci := 11) (v := .ref (pr)) (C := RX11) (T := TX11) (N := 14) hx hb hts hin11 hown hK hP 0 rfl rfl 11 (by decide) q_f_RX11_30_LimbSolverModel_pivotRow_I (fun _ h9 => h9) rfl dX11_eliminate_130 ?_
          refine lv_iload_n hx hb dX11_eliminate_133 rfl (lv_at hl 1 rfl) ?_
          refine lv_iload_n hx hb dX11_eliminate_134 rfl (lv_at hl 0 rfl) ?_
          refine lv_aload_n hx hb dX11_eliminate_135 rfl (lv_at hl 2 rfl) ?_
          refine va_get (D := D) (ci := 11) (v := .int (iZ (((nn : Nat) : Int)))) (C := RX11) (T := TX11) (N := 14) hx hb hts hin11 hown hK hP 0 rfl rfl 5 (by decide) q_f_RX11_26_LimbSolverModel_n_I (fun _ h9 => h9) rfl dX11_eliminate_136 ?_
          refine zr_icmp_ge hx hb 149 ⟨by omega, by omega⟩ ⟨by omega, by omega⟩ dX11_eliminate_139 (by decide) (fun h_139 => ?_) (fun h_139 => ?_)
          · refine lv_iconst (v := iZ (-1)) hx hb dX11_eliminate_149 rfl ?_
            refine zr_iast hx hb hK hP hD hS 6 0 rfl rfl (c9) (by omega) (by omega) (by omega) dX11_eliminate_150 (fun H locs hP hD hS => ?_)
            have hP : va_P D vwCl [(mo, mo_ fg le sg tp bl pr rs (((nn : Nat) : Int)) (0) (sv) (((peR (pe V nn c9) : Nat) : Int)) (peT (pe V nn c9)) (((peH (pe V nn c9) : Nat) : Int)) (0)), (fg, aI cI (52200) (G)), (le, aI cI (190) (L1)), (sg, aI cI (90) (S1)), (tp, aI cI (1300) (T1)), (bl, aI cI (1300) (B1)), (pr, aI cI (6) (zu (P1) (c9) ((-1))))] H := hP
            have hD : va_D A [(mo, mo_ fg le sg tp bl pr rs (((nn : Nat) : Int)) (0) (sv) (((peR (pe V nn c9) : Nat) : Int)) (peT (pe V nn c9)) (((peH (pe V nn c9) : Nat) : Int)) (0)), (fg, aI cI (52200) (G)), (le, aI cI (190) (L1)), (sg, aI cI (90) (S1)), (tp, aI cI (1300) (T1)), (bl, aI cI (1300) (B1)), (pr, aI cI (6) (zu (P1) (c9) ((-1))))] := hD
            refine lv_iload_n hx hb dX11_eliminate_151 rfl (lv_at hl 0 rfl) ?_
            refine lv_aload_n hx hb dX11_eliminate_152 rfl (lv_at hl 2 rfl) ?_
            refine va_get (D := D) (ci := 11) (v := .int (iZ (((nn : Nat) : Int)))) (C := RX11) (T := TX11) (N := 14) hx hb hts hin11 hown hK hP 0 rfl rfl 5 (by decide) q_f_RX11_26_LimbSolverModel_n_I (fun _ h9 => h9) rfl dX11_eliminate_153 ?_
            refine zr_icmp_ge hx hb 233 ⟨by omega, by omega⟩ ⟨by omega, by omega⟩ dX11_eliminate_156 (by decide) (fun h_156 => ?_) (fun h_156 => ?_)
            · exact j233 G L1 S1 T1 B1 _ H locs ls hke (by rw [eM]; exact hMc) hPR2 hmx (by rw [eR, eT]; exact hP) (by rw [eR, eT]; exact hD) hS (lv_sub hl [1, 2, 3] rfl)
            · exfalso; omega
          · exfalso; omega
      have rlp : ∀ (t : Nat) (R8 : Nat) (H : Heap) (locs : List Loc) (ls : Array Slot), (R8 + t = nn) → (pe_find (peM (pe V nn c9)) c9 R8 t = pe_row (pe V nn c9) nn c9) →  va_P D vwCl [(mo, mo_ fg le sg tp bl pr rs (((nn : Nat) : Int)) (0) (sv) (((peR (pe V nn c9) : Nat) : Int)) (peT (pe V nn c9)) (((peH (pe V nn c9) : Nat) : Int)) (0)), (fg, aI cI (52200) (G)), (le, aI cI (190) (L1)), (sg, aI cI (90) (S1)), (tp, aI cI (1300) (T1)), (bl, aI cI (1300) (B1)), (pr, aI cI (6) (P1))] H → va_D A [(mo, mo_ fg le sg tp bl pr rs (((nn : Nat) : Int)) (0) (sv) (((peR (pe V nn c9) : Nat) : Int)) (peT (pe V nn c9)) (((peH (pe V nn c9) : Nat) : Int)) (0)), (fg, aI cI (52200) (G)), (le, aI cI (190) (L1)), (sg, aI cI (90) (S1)), (tp, aI cI (1300) (T1)), (bl, aI cI (1300) (B1)), (pr, aI cI (6) (P1))] → va_S A s.heap H locs → lv_has ls 5 [(3, .int (iZ (((R8 : Nat) : Int)))), (2, .int (iZ (((c9 : Nat) : Int)))), (0, .ref (mo)), (1, .int (iZ (cp)))] → W zp l ze (zRm 9 290) s zm args below meth zc H locs 0 0 Q (F0 zm 99 ls []) := by
        intro t
        induction t with
        | zero =>
          intro R8 H locs ls hrt hfd hP hD hS hl
          refine lv_iload_n hx hb dX11_eliminate_99 rfl (lv_at hl 0 rfl) ?_
          refine lv_aload_n hx hb dX11_eliminate_100 rfl (lv_at hl 2 rfl) ?_
          refine va_get (D := D) (ci := 11) (v := .int (iZ (((nn : Nat) : Int)))) (C := RX11) (T := TX11) (N := 14) hx hb hts hin11 hown hK hP 0 rfl rfl 5 (by decide) q_f_RX11_26_LimbSolverModel_n_I (fun _ h9 => h9) rfl dX11_eliminate_101 ?_
          refine zr_icmp_ge hx hb 129 ⟨by omega, by omega⟩ ⟨by omega, by omega⟩ dX11_eliminate_104 (by decide) (fun h_104 => ?_) (fun h_104 => ?_)
          · exact j129 R8 H locs ls (by rw [← hfd]; rfl) hP hD hS (lv_sub hl [0, 1, 2, 3] rfl)
          · exfalso; omega
        | succ t ih =>
          intro R8 H locs ls hrt hfd hP hD hS hl
          have ih4 := ih
          refine lv_iload_n hx hb dX11_eliminate_99 rfl (lv_at hl 0 rfl) ?_
          refine lv_aload_n hx hb dX11_eliminate_100 rfl (lv_at hl 2 rfl) ?_
          refine va_get (D := D) (ci := 11) (v := .int (iZ (((nn : Nat) : Int)))) (C := RX11) (T := TX11) (N := 14) hx hb hts hin11 hown hK hP 0 rfl rfl 5 (by decide) q_f_RX11_26_LimbSolverModel_n_I (fun _ h9 => h9) rfl dX11_eliminate_101 ?_
          refine zr_icmp_ge hx hb 129 ⟨by omega, by omega⟩ ⟨by omega, by omega⟩ dX11_eliminate_104 (by decide) (fun h_104 => ?_) (fun h_104 => ?_)
          · exfalso; omega
          · have hxr := hMc (7 * R8 + c9) (by omega)
            rw [pe_fl_at _ (by omega)] at hxr
            refine lv_aload_n hx hb dX11_eliminate_107 rfl (lv_at hl 2 rfl) ?_
            refine va_get (D := D) (ci := 11) (v := .ref (sg)) (C := RX11) (T := TX11) (N := 14) hx hb hts hin11 hown hK hP 0 rfl rfl 2 (by decide) q_f_RX11_17_LimbSolverModel_sign_I (fun _ h9 => h9) rfl dX11_eliminate_108 ?_
            refine lv_bipush (v := iZ 42) hx hb dX11_eliminate_111 (by decide) ?_
            refine lv_iload_n hx hb dX11_eliminate_113 rfl (lv_at hl 0 rfl) ?_
            refine lv_iload_n hx hb dX11_eliminate_114 rfl (lv_at hl 1 rfl) ?_
            refine zc_Si (As := [.int (iZ (((R8 : Nat) : Int))), .int (iZ (((c9 : Nat) : Int)))]) (rest := [.int (iZ (42)), .ref (sg)]) (wr := [(mo, mo_ fg le sg tp bl pr rs (((nn : Nat) : Int)) (0) (sv) (((peR (pe V nn c9) : Nat) : Int)) (peT (pe V nn c9)) (((peH (pe V nn c9) : Nat) : Int)) (0)), (fg, aI cI (52200) (G)), (le, aI cI (190) (L1)), (sg, aI cI (90) (S1)), (tp, aI cI (1300) (T1)), (bl, aI cI (1300) (B1)), (pr, aI cI (6) (P1))]) ⟨hx, hb, hml, hown, hts⟩ (c_place l D cI cJ cE cF cR (R8) (c9) (by omega) (by omega)) (va_cwS 2 hts gX11_eliminate_X11_place rfl rfl rfl (by decide +kernel) ⟨Nat.le_of_ble_eq_true rfl, Nat.le_of_ble_eq_true rfl⟩) hN hK hP hD hS hA [] [0, 1, 2, 3, 4, 5, 6] rfl rfl (by decide) (by decide) (by decide) rfl hl.1 (Nat.le_of_ble_eq_true rfl) dX11_eliminate_115 ⟨by decide, by decide⟩ (fun z115 w1 H locs hz115 hp hP hD hS => ?_)
            obtain ⟨hw9, hx0⟩ := hp
            subst hw9
            subst hx0
            have hP := hP.sub (ws' := [(mo, mo_ fg le sg tp bl pr rs (((nn : Nat) : Int)) (0) (sv) (((peR (pe V nn c9) : Nat) : Int)) (peT (pe V nn c9)) (((peH (pe V nn c9) : Nat) : Int)) (0)), (fg, aI cI (52200) (G)), (le, aI cI (190) (L1)), (sg, aI cI (90) (S1)), (tp, aI cI (1300) (T1)), (bl, aI cI (1300) (B1)), (pr, aI cI (6) (P1))]) [0, 1, 2, 3, 4, 5, 6] rfl
            have hD := hD.sub (ws' := [(mo, mo_ fg le sg tp bl pr rs (((nn : Nat) : Int)) (0) (sv) (((peR (pe V nn c9) : Nat) : Int)) (peT (pe V nn c9)) (((peH (pe V nn c9) : Nat) : Int)) (0)), (fg, aI cI (52200) (G)), (le, aI cI (190) (L1)), (sg, aI cI (90) (S1)), (tp, aI cI (1300) (T1)), (bl, aI cI (1300) (B1)), (pr, aI cI (6) (P1))]) [0, 1, 2, 3, 4, 5, 6] (by decide) rfl
            refine zr_iadd hx hb dX11_eliminate_118 ?_
            refine zr_eqi (((42 + (7 * R8 + c9) : Nat) : Int)) (by omega) ?_
            refine zr_iald hx hb hK hP 3 0 rfl rfl (42 + (7 * R8 + c9)) (by omega) (by omega) (by omega) dX11_eliminate_119 ?_
            refine zr_eqi ((peM (pe V nn c9) R8 c9).num.sign) (hxr).1 ?_
            refine zr_if_ne hx hb 129 ⟨by rcases md_sg (x := peM (pe V nn c9) R8 c9) with q | q | q <;> rw [q] <;> decide, by rcases md_sg (x := peM (pe V nn c9) R8 c9) with q | q | q <;> rw [q] <;> decide⟩ dX11_eliminate_120 (by decide) (fun h_120 => ?_) (fun h_120 => ?_)
            · exact j129 R8 H locs ls (by rw [← hfd]; exact if_neg (fun q => h_120 (md_sg0.mpr q))) hP hD hS (lv_sub hl [0, 1, 2, 3] rfl)
            · refine lv_iinc (v := iZ (((R8 + 1 : Nat) : Int))) (lv' := [(3, .int (iZ (((R8 + 1 : Nat) : Int)))), (2, .int (iZ (((c9 : Nat) : Int)))), (0, .ref (mo)), (1, .int (iZ (cp)))]) hx hb dX11_eliminate_123 hl (k := 0) rfl (by rw [show ((R8 + 1 : Nat) : Int) = ((R8 : Nat) : Int) + 1 by omega]; exact iZ_add _ _) (by decide) rfl (fun ls hl => ?_)
              refine lv_goto (tgt := 99) hx hb dX11_eliminate_126 (by decide) ?_
              exact ih4 (R8 + 1) H locs ls (by omega) (by rw [← hfd]; exact (if_pos (md_sg0.mp h_120)).symm) hP hD hS (lv_sub hl [0, 1, 2, 3] rfl)
      refine lv_iload_n hx hb dX11_eliminate_78 rfl (lv_at hl 0 rfl) ?_
      refine lv_aload_n hx hb dX11_eliminate_79 rfl (lv_at hl 1 rfl) ?_
      refine va_get (D := D) (ci := 11) (v := .int (iZ (((nn : Nat) : Int)))) (C := RX11) (T := TX11) (N := 14) hx hb hts hin11 hown hK hP 0 rfl rfl 5 (by decide) q_f_RX11_26_LimbSolverModel_n_I (fun _ h9 => h9) rfl dX11_eliminate_80 ?_
      refine zr_icmp_ge hx hb 269 ⟨by omega, by omega⟩ ⟨by omega, by omega⟩ dX11_eliminate_83 (by decide) (fun h_83 => ?_) (fun h_83 => ?_)
      · exfalso; omega
      · refine lv_aload_n hx hb dX11_eliminate_86 rfl (lv_at hl 1 rfl) ?_
        refine va_get (D := D) (ci := 11) (v := .int (iZ (((peH (pe V nn c9) : Nat) : Int)))) (C := RX11) (T := TX11) (N := 14) hx hb hts hin11 hown hK hP 0 rfl rfl 10 (by decide) q_f_RX11_142_LimbSolverModel_most_I (fun _ h9 => h9) rfl dX11_eliminate_87 ?_
        refine lv_iload_n hx hb dX11_eliminate_90 rfl (lv_at hl 2 rfl) ?_
        refine zr_icmp_gt hx hb 269 ⟨by omega, by omega⟩ hcp9 dX11_eliminate_91 (by decide) (fun h_91 => ?_) (fun h_91 => ?_)
        · exact j269 c9 G L1 S1 T1 B1 P1 H locs ls (by omega) (Or.inr (by omega)) hmb hke hMc hPR hP hD hS (lv_sub hl [1, 2] rfl)
        · refine lv_aload_n hx hb dX11_eliminate_94 rfl (lv_at hl 1 rfl) ?_
          refine va_get (D := D) (ci := 11) (v := .int (iZ (((peR (pe V nn c9) : Nat) : Int)))) (C := RX11) (T := TX11) (N := 14) hx hb hts hin11 hown hK hP 0 rfl rfl 8 (by decide) q_f_RX11_136_LimbSolverModel_rank_I (fun _ h9 => h9) rfl dX11_eliminate_95 ?_
          refine lv_istore_n (lv' := [(3, .int (iZ (((peR (pe V nn c9) : Nat) : Int)))), (2, .int (iZ (((c9 : Nat) : Int)))), (0, .ref (mo)), (1, .int (iZ (cp)))]) hx hb dX11_eliminate_98 rfl hl (by decide) rfl (fun ls hl => ?_)
          exact rlp (nn - peR (pe V nn c9)) (peR (pe V nn c9)) H locs ls (by omega) rfl hP hD hS (lv_sub hl [0, 1, 2, 3] rfl)
  have flp : ∀ (t : Nat) (f9 : Nat) (G : Nat → Int) (L1 : Nat → Int) (S1 : Nat → Int) (H : Heap) (locs : List Loc) (ls : Array Slot), (f9 + t = 42) → (∀ g : Nat, g < 90 → g < 42 → md_ef F Ln Sg G L1 S1 g) → (∀ j : Nat, j < f9 → md_f G L1 S1 (42 + j) (V j)) →  va_P D vwCl [(mo, mo_ fg le sg tp bl pr rs (((nn : Nat) : Int)) (0) (sv) (rk) (tn) (ms) (0)), (fg, aI cI (52200) (G)), (le, aI cI (190) (L1)), (sg, aI cI (90) (S1)), (tp, aI cI (1300) (T0)), (bl, aI cI (1300) (B0)), (pr, aI cI (6) (PR))] H → va_D A [(mo, mo_ fg le sg tp bl pr rs (((nn : Nat) : Int)) (0) (sv) (rk) (tn) (ms) (0)), (fg, aI cI (52200) (G)), (le, aI cI (190) (L1)), (sg, aI cI (90) (S1)), (tp, aI cI (1300) (T0)), (bl, aI cI (1300) (B0)), (pr, aI cI (6) (PR))] → va_S A s.heap H locs → lv_has ls 5 [(2, .int (iZ (((f9 : Nat) : Int)))), (0, .ref (mo)), (1, .int (iZ (cp)))] → W zp l ze (zRm 9 290) s zm args below meth zc H locs 0 0 Q (F0 zm 35 ls []) := by
    intro t
    induction t with
    | zero =>
      intro f9 G L1 S1 H locs ls hft hke hcy hP hD hS hl
      refine lv_iload_n hx hb dX11_eliminate_35 rfl (lv_at hl 0 rfl) ?_
      refine lv_bipush (v := iZ 42) hx hb dX11_eliminate_36 (by decide) ?_
      refine zr_icmp_ge hx hb 56 ⟨by omega, by omega⟩ ⟨by omega, by omega⟩ dX11_eliminate_38 (by decide) (fun h_38 => ?_) (fun h_38 => ?_)
      · have hcz : md_A G L1 S1 42 V := fun j hj => hcy j (by omega)
        have hmt := mta_le hcz (by decide) hn
        have hez : peH (pe V nn 0) = mta V nn nn := by show mta (pe_fl (fun i j => V (7 * i + j))) nn nn = _; rw [pe_fl_un]
        refine lv_aload_n hx hb dX11_eliminate_56 rfl (lv_at hl 1 rfl) ?_
        refine lv_iconst (v := iZ 0) hx hb dX11_eliminate_57 rfl ?_
        refine va_put (D := D) (ci := 11) (v := .int (iZ (0))) (ty := tyX11 8) (C := RX11) (T := TX11) (N := 14) hx hb hts hin11 tyX11 tyX11_ok nmX11 hown hK hP hD hS 0 rfl rfl 8 (by decide) q_f_RX11_136_LimbSolverModel_rank_I (fun _ h9 => h9) rfl (tyX11_ok 8 (by decide)) rfl rfl (Nat.le_of_ble_eq_true rfl) dX11_eliminate_58 (fun H locs hP hD hS => ?_)
        have hP : va_P D vwCl [(mo, mo_ fg le sg tp bl pr rs (((nn : Nat) : Int)) (0) (sv) (0) (tn) (ms) (0)), (fg, aI cI (52200) (G)), (le, aI cI (190) (L1)), (sg, aI cI (90) (S1)), (tp, aI cI (1300) (T0)), (bl, aI cI (1300) (B0)), (pr, aI cI (6) (PR))] H := hP
        have hD : va_D A [(mo, mo_ fg le sg tp bl pr rs (((nn : Nat) : Int)) (0) (sv) (0) (tn) (ms) (0)), (fg, aI cI (52200) (G)), (le, aI cI (190) (L1)), (sg, aI cI (90) (S1)), (tp, aI cI (1300) (T0)), (bl, aI cI (1300) (B0)), (pr, aI cI (6) (PR))] := hD
        refine lv_aload_n hx hb dX11_eliminate_61 rfl (lv_at hl 1 rfl) ?_
        refine lv_iconst (v := iZ 1) hx hb dX11_eliminate_62 rfl ?_
        refine va_put (D := D) (ci := 11) (v := .int (iZ (1))) (ty := tyX11 9) (C := RX11) (T := TX11) (N := 14) hx hb hts hin11 tyX11 tyX11_ok nmX11 hown hK hP hD hS 0 rfl rfl 9 (by decide) q_f_RX11_139_LimbSolverModel_turns_I (fun _ h9 => h9) rfl (tyX11_ok 9 (by decide)) rfl rfl (Nat.le_of_ble_eq_true rfl) dX11_eliminate_63 (fun H locs hP hD hS => ?_)
        have hP : va_P D vwCl [(mo, mo_ fg le sg tp bl pr rs (((nn : Nat) : Int)) (0) (sv) (0) (1) (ms) (0)), (fg, aI cI (52200) (G)), (le, aI cI (190) (L1)), (sg, aI cI (90) (S1)), (tp, aI cI (1300) (T0)), (bl, aI cI (1300) (B0)), (pr, aI cI (6) (PR))] H := hP
        have hD : va_D A [(mo, mo_ fg le sg tp bl pr rs (((nn : Nat) : Int)) (0) (sv) (0) (1) (ms) (0)), (fg, aI cI (52200) (G)), (le, aI cI (190) (L1)), (sg, aI cI (90) (S1)), (tp, aI cI (1300) (T0)), (bl, aI cI (1300) (B0)), (pr, aI cI (6) (PR))] := hD
        refine lv_aload_n hx hb dX11_eliminate_66 rfl (lv_at hl 1 rfl) ?_
        refine lv_aload_n hx hb dX11_eliminate_67 rfl (lv_at hl 1 rfl) ?_
        refine lv_bipush (v := iZ 42) hx hb dX11_eliminate_68 (by decide) ?_
        refine zr_eqi (((42 : Nat) : Int)) (by rfl) ?_
        refine zc_Vi (As := [.int (iZ (((42 : Nat) : Int)))]) (rest := [.ref (mo)]) (wr := [(fg, aI cI (52200) (G)), (sg, aI cI (90) (S1)), (tp, aI cI (1300) (T0)), (bl, aI cI (1300) (B0)), (pr, aI cI (6) (PR))]) ⟨hx, hb, hml, hown, hts⟩ (c_meterOf l D cI cJ cE cF cR mo fg le sg tp bl pr rs nn (0) sv (0) (1) ms (0) 42 G L1 S1 (V) hn (by decide) (hcz)) (cwV 1 hts gX11_eliminate_X11_meterOf rfl rfl rfl (by decide +kernel) ⟨Nat.le_of_ble_eq_true rfl, Nat.le_of_ble_eq_true rfl⟩) hN hK hP hD hS hA [0, 2] [1, 3, 4, 5, 6] rfl rfl (by decide) (by decide) (by decide) (q0 := 0) (ci := 11) rfl rfl rfl rfl hl.1 (Nat.le_of_ble_eq_true rfl) dX11_eliminate_70 ⟨by decide, by decide⟩ (fun z70 w1 H locs hz70 hp hP hD hS => ?_)
        obtain ⟨hw9, hr0⟩ := hp
        subst hw9
        subst hr0
        have hP := hP.sub (ws' := [(mo, mo_ fg le sg tp bl pr rs (((nn : Nat) : Int)) (0) (sv) (0) (1) (ms) (0)), (fg, aI cI (52200) (G)), (le, aI cI (190) (L1)), (sg, aI cI (90) (S1)), (tp, aI cI (1300) (T0)), (bl, aI cI (1300) (B0)), (pr, aI cI (6) (PR))]) [5, 0, 6, 1, 2, 3, 4] rfl
        have hD := hD.sub (ws' := [(mo, mo_ fg le sg tp bl pr rs (((nn : Nat) : Int)) (0) (sv) (0) (1) (ms) (0)), (fg, aI cI (52200) (G)), (le, aI cI (190) (L1)), (sg, aI cI (90) (S1)), (tp, aI cI (1300) (T0)), (bl, aI cI (1300) (B0)), (pr, aI cI (6) (PR))]) [5, 0, 6, 1, 2, 3, 4] (by decide) rfl
        refine va_put (D := D) (ci := 11) (v := .int (iZ (((mta (V) nn nn : Nat) : Int)))) (ty := tyX11 10) (C := RX11) (T := TX11) (N := 14) hx hb hts hin11 tyX11 tyX11_ok nmX11 hown hK hP hD hS 0 rfl rfl 10 (by decide) q_f_RX11_142_LimbSolverModel_most_I (fun _ h9 => h9) rfl (tyX11_ok 10 (by decide)) rfl rfl (Nat.le_of_ble_eq_true rfl) dX11_eliminate_73 (fun H locs hP hD hS => ?_)
        have hP : va_P D vwCl [(mo, mo_ fg le sg tp bl pr rs (((nn : Nat) : Int)) (0) (sv) (0) (1) (((mta (V) nn nn : Nat) : Int)) (0)), (fg, aI cI (52200) (G)), (le, aI cI (190) (L1)), (sg, aI cI (90) (S1)), (tp, aI cI (1300) (T0)), (bl, aI cI (1300) (B0)), (pr, aI cI (6) (PR))] H := hP
        have hD : va_D A [(mo, mo_ fg le sg tp bl pr rs (((nn : Nat) : Int)) (0) (sv) (0) (1) (((mta (V) nn nn : Nat) : Int)) (0)), (fg, aI cI (52200) (G)), (le, aI cI (190) (L1)), (sg, aI cI (90) (S1)), (tp, aI cI (1300) (T0)), (bl, aI cI (1300) (B0)), (pr, aI cI (6) (PR))] := hD
        refine lv_iconst (v := iZ 0) hx hb dX11_eliminate_76 rfl ?_
        refine lv_istore_n (lv' := [(2, .int (iZ (0))), (0, .ref (mo)), (1, .int (iZ (cp)))]) hx hb dX11_eliminate_77 rfl hl (by decide) rfl (fun ls hl => ?_)
        exact clp nn 0 G L1 S1 T0 B0 PR H locs ls (by omega) (by omega) hke (by show md_A G L1 S1 42 (pe_fl (fun i j => V (7 * i + j))); rw [pe_fl_un]; exact hcz) (fun j hj => absurd hj (Nat.not_lt_zero j)) (by rw [hez]; exact hP) (by rw [hez]; exact hD) hS (lv_sub hl [0, 1, 2] rfl)
      · exfalso; omega
    | succ t ih =>
      intro f9 G L1 S1 H locs ls hft hke hcy hP hD hS hl
      refine lv_iload_n hx hb dX11_eliminate_35 rfl (lv_at hl 0 rfl) ?_
      refine lv_bipush (v := iZ 42) hx hb dX11_eliminate_36 (by decide) ?_
      refine zr_icmp_ge hx hb 56 ⟨by omega, by omega⟩ ⟨by omega, by omega⟩ dX11_eliminate_38 (by decide) (fun h_38 => ?_) (fun h_38 => ?_)
      · exfalso; omega
      · have hxf : md_f G L1 S1 f9 (V f9) := (hke f9 (by omega) (by omega)).f (by have q := hAA f9 (by omega); rw [Nat.zero_add] at q; exact q)
        refine lv_aload_n hx hb dX11_eliminate_41 rfl (lv_at hl 1 rfl) ?_
        refine lv_bipush (v := iZ 42) hx hb dX11_eliminate_42 (by decide) ?_
        refine lv_iload_n hx hb dX11_eliminate_44 rfl (lv_at hl 0 rfl) ?_
        refine zr_iadd hx hb dX11_eliminate_45 ?_
        refine zr_eqi (((42 + f9 : Nat) : Int)) (by omega) ?_
        refine lv_iload_n hx hb dX11_eliminate_46 rfl (lv_at hl 0 rfl) ?_
        refine zc_Vv (As := [.int (iZ (((42 + f9 : Nat) : Int))), .int (iZ (((f9 : Nat) : Int)))]) (rest := []) (wr := [(tp, aI cI (1300) (T0)), (bl, aI cI (1300) (B0)), (pr, aI cI (6) (PR))]) ⟨hx, hb, hml, hown, hts⟩ (c_massign l D cI cJ cE cF cR mo fg le sg tp bl pr rs ((nn : Nat) : Int) (0) sv rk tn ms (0) (42 + f9) (f9) 180 G L1 S1 (V f9) (by omega) (by omega) (by omega) (hxf) (hxf.b (by omega)).1 (hxf.b (by omega)).2 ((mdC_b _).1) ((mdC_b _).1)) (cwV 2 hts gX11_eliminate_X11_assign rfl rfl rfl (by decide +kernel) ⟨Nat.le_of_ble_eq_true rfl, Nat.le_of_ble_eq_true rfl⟩) hN hK hP hD hS hA [0, 1, 2, 3] [4, 5, 6] rfl rfl (by decide) (by decide) (by decide) (q0 := 0) (ci := 11) rfl rfl rfl rfl hl.1 (Nat.le_of_ble_eq_true rfl) dX11_eliminate_47 ⟨by decide, by decide⟩ (fun w1 H locs hp hP hD hS => ?_)
        obtain ⟨F2, L2, S2, hw9, hk2, hf2⟩ := hp
        subst hw9
        have hP := hP.sub (ws' := [(mo, mo_ fg le sg tp bl pr rs (((nn : Nat) : Int)) (0) (sv) (rk) (tn) (ms) (0)), (fg, aI cI (52200) (F2)), (le, aI cI (190) (L2)), (sg, aI cI (90) (S2)), (tp, aI cI (1300) (T0)), (bl, aI cI (1300) (B0)), (pr, aI cI (6) (PR))]) [3, 4, 5, 6, 0, 1, 2] rfl
        have hD := hD.sub (ws' := [(mo, mo_ fg le sg tp bl pr rs (((nn : Nat) : Int)) (0) (sv) (rk) (tn) (ms) (0)), (fg, aI cI (52200) (F2)), (le, aI cI (190) (L2)), (sg, aI cI (90) (S2)), (tp, aI cI (1300) (T0)), (bl, aI cI (1300) (B0)), (pr, aI cI (6) (PR))]) [3, 4, 5, 6, 0, 1, 2] (by decide) rfl
        refine lv_iinc (v := iZ (((f9 + 1 : Nat) : Int))) (lv' := [(2, .int (iZ (((f9 + 1 : Nat) : Int)))), (0, .ref (mo)), (1, .int (iZ (cp)))]) hx hb dX11_eliminate_50 hl (k := 0) rfl (by rw [show ((f9 + 1 : Nat) : Int) = ((f9 : Nat) : Int) + 1 by omega]; exact iZ_add _ _) (by decide) rfl (fun ls hl => ?_)
        refine lv_goto (tgt := 35) hx hb dX11_eliminate_53 (by decide) ?_
        exact ih (f9 + 1) F2 L2 S2 H locs ls (by omega) (fun g g1 g2 => (hke g g1 g2).trans (hk2 g g1 (by omega))) (fun j hj => by by_cases q : j = f9; (subst q; exact hf2); exact (hk2 _ (by omega) (by omega)).f (hcy j (by omega))) hP hD hS (lv_sub hl [0, 1, 2] rfl)
  refine lv_aload_n hx hb dX11_eliminate_0 rfl (lv_at hl 0 rfl) ?_
  refine lv_iload_n hx hb dX11_eliminate_1 rfl (lv_at hl 1 rfl) ?_
  refine zr_if_lt hx hb 11 hcp9 dX11_eliminate_2 (by decide) (fun h_2 => ?_) (fun h_2 => ?_)
  · exfalso; omega
  · refine lv_iload_n hx hb dX11_eliminate_5 rfl (lv_at hl 1 rfl) ?_
    refine zr_ldc hx hb 40000 (by decide) hown q_constant_RX11_135_40000 dX11_eliminate_6 ?_
    refine zr_icmp_le hx hb 15 hcp9 (by decide) dX11_eliminate_8 (by decide) (fun h_8 => ?_) (fun h_8 => ?_)
    · refine lv_iconst (v := iZ 0) hx hb dX11_eliminate_15 rfl ?_
      refine va_put (D := D) (ci := 11) (v := .int (iZ (0))) (ty := tyX11 12) (C := RX11) (T := TX11) (N := 14) hx hb hts hin11 tyX11 tyX11_ok nmX11 hown hK hP hD hS 0 rfl rfl 12 (by decide) q_f_RX11_40_LimbSolverModel_thrown_I (fun _ h9 => h9) rfl (tyX11_ok 12 (by decide)) rfl rfl (Nat.le_of_ble_eq_true rfl) dX11_eliminate_16 (fun H locs hP hD hS => ?_)
      have hP : va_P D vwCl [(mo, mo_ fg le sg tp bl pr rs (((nn : Nat) : Int)) (dn) (sv) (rk) (tn) (ms) (0)), (fg, aI cI (52200) (F)), (le, aI cI (190) (Ln)), (sg, aI cI (90) (Sg)), (tp, aI cI (1300) (T0)), (bl, aI cI (1300) (B0)), (pr, aI cI (6) (PR))] H := hP
      have hD : va_D A [(mo, mo_ fg le sg tp bl pr rs (((nn : Nat) : Int)) (dn) (sv) (rk) (tn) (ms) (0)), (fg, aI cI (52200) (F)), (le, aI cI (190) (Ln)), (sg, aI cI (90) (Sg)), (tp, aI cI (1300) (T0)), (bl, aI cI (1300) (B0)), (pr, aI cI (6) (PR))] := hD
      refine lv_aload_n hx hb dX11_eliminate_19 rfl (lv_at hl 0 rfl) ?_
      refine va_get (D := D) (ci := 11) (v := .int (iZ (0))) (C := RX11) (T := TX11) (N := 14) hx hb hts hin11 hown hK hP 0 rfl rfl 12 (by decide) q_f_RX11_40_LimbSolverModel_thrown_I (fun _ h9 => h9) rfl dX11_eliminate_20 ?_
      refine zr_if_le hx hb 28 ⟨by omega, by omega⟩ dX11_eliminate_23 (by decide) (fun h_23 => ?_) (fun h_23 => ?_)
      · refine lv_aload_n hx hb dX11_eliminate_28 rfl (lv_at hl 0 rfl) ?_
        refine lv_iconst (v := iZ 0) hx hb dX11_eliminate_29 rfl ?_
        refine va_put (D := D) (ci := 11) (v := .int (iZ (0))) (ty := tyX11 6) (C := RX11) (T := TX11) (N := 14) hx hb hts hin11 tyX11 tyX11_ok nmX11 hown hK hP hD hS 0 rfl rfl 6 (by decide) q_f_RX11_109_LimbSolverModel_done_Z (fun _ h9 => h9) rfl (tyX11_ok 6 (by decide)) rfl rfl (Nat.le_of_ble_eq_true rfl) dX11_eliminate_30 (fun H locs hP hD hS => ?_)
        have hP : va_P D vwCl [(mo, mo_ fg le sg tp bl pr rs (((nn : Nat) : Int)) (0) (sv) (rk) (tn) (ms) (0)), (fg, aI cI (52200) (F)), (le, aI cI (190) (Ln)), (sg, aI cI (90) (Sg)), (tp, aI cI (1300) (T0)), (bl, aI cI (1300) (B0)), (pr, aI cI (6) (PR))] H := hP
        have hD : va_D A [(mo, mo_ fg le sg tp bl pr rs (((nn : Nat) : Int)) (0) (sv) (rk) (tn) (ms) (0)), (fg, aI cI (52200) (F)), (le, aI cI (190) (Ln)), (sg, aI cI (90) (Sg)), (tp, aI cI (1300) (T0)), (bl, aI cI (1300) (B0)), (pr, aI cI (6) (PR))] := hD
        refine lv_iconst (v := iZ 0) hx hb dX11_eliminate_33 rfl ?_
        refine lv_istore_n (lv' := [(2, .int (iZ (0))), (0, .ref (mo)), (1, .int (iZ (cp)))]) hx hb dX11_eliminate_34 rfl hl (by decide) rfl (fun ls hl => ?_)
        exact flp 42 0 F Ln Sg H locs ls (by omega) (fun g _ _ => md_ef.refl F Ln Sg g) (fun j hj => absurd hj (Nat.not_lt_zero j)) hP hD hS (lv_sub hl [0, 1, 2] rfl)
      · exfalso; omega
    · exfalso; omega
