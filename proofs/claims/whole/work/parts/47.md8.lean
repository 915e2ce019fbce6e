
theorem md_n.lt {F Ln : Nat → Int} {s : Nat} {v : Int} (h : md_n F Ln s v) : v < hx_p (mdC s) := by
  obtain ⟨k, _, h2⟩ := h
  exact Int.lt_of_lt_of_le (hx_ok_lt h2) (hx_p_le h2.1)
theorem md_f.b {F Ln Sg : Nat → Int} {f : Nat} {x : Rat} (h : md_f F Ln Sg f x) (hf : f < 85) : ((x.num.natAbs : Nat) : Int) < hx_p 180 ∧ ((x.den : Nat) : Int) < hx_p 180 := by
  have h1 := h.2.1.lt
  have h2 := h.2.2.lt
  rw [show mdC (2 * f) = 180 from if_pos (by omega)] at h1
  rw [show mdC (2 * f + 1) = 180 from if_pos (by omega)] at h2
  exact ⟨h1, h2⟩
theorem md_A.keep {F Ln Sg F' Ln' Sg' : Nat → Int} {A : Nat → Rat} {f fr : Nat} (h : md_A F Ln Sg fr A) (hk : ∀ g : Nat, g < 90 → g ≠ f → md_ef F Ln Sg F' Ln' Sg' g) (hf : f < fr ∨ fr + 42 ≤ f) (hfr : fr ≤ 42) : md_A F' Ln' Sg' fr A := fun j hj => (hk _ (by omega) (by omega)).f (h j hj)
theorem md_ef.refl (F Ln Sg : Nat → Int) (g : Nat) : md_ef F Ln Sg F Ln Sg g := ⟨md_e.refl F Ln _, md_e.refl F Ln _, rfl⟩
theorem md_ef.trans {F Ln Sg F' Ln' Sg' F2 L2 S2 : Nat → Int} {g : Nat} (h : md_ef F Ln Sg F' Ln' Sg' g) (k : md_ef F' Ln' Sg' F2 L2 S2 g) : md_ef F Ln Sg F2 L2 S2 g := ⟨h.1.trans k.1, h.2.1.trans k.2.1, k.2.2.trans h.2.2⟩
theorem pe_fl_at (M : Nat → Nat → Rat) {i j : Nat} (h : j < 7) : pe_fl M (7 * i + j) = M i j := by
  unfold pe_fl
  rw [show (7 * i + j) / 7 = i by omega, show (7 * i + j) % 7 = j by omega]
/-- rows exchanged in the first k columns -/
def pe_swk (k : Nat) (M : Nat → Nat → Rat) (a b i j : Nat) : Rat := if j < k then (if i = a then M b j else if i = b then M a j else M i j) else M i j
theorem pe_swk_0 (M : Nat → Nat → Rat) (a b : Nat) : pe_swk 0 M a b = M := by
  funext i j; unfold pe_swk; rw [if_neg (Nat.not_lt_zero j)]
theorem pe_swk_n (n : Nat) (M : Nat → Nat → Rat) (a b : Nat) : pe_swk (n + 1) M a b = pe_sw n M a b := by
  funext i j; unfold pe_swk pe_sw
  by_cases h : j ≤ n
  · rw [if_pos (Nat.lt_succ_of_le h), if_pos h]
  · rw [if_neg (by omega), if_neg h]
theorem pe_swk_k (k : Nat) (M : Nat → Nat → Rat) (a b i : Nat) : pe_swk k M a b i k = M i k := if_neg (Nat.lt_irrefl k)
theorem md_exch {F Ln Sg F1 L1 S1 F2 L2 S2 F3 L3 S3 : Nat → Int} {M : Nat → Nat → Rat} {k a b : Nat} (h : md_A F Ln Sg 42 (pe_fl (pe_swk k M a b))) (hk : k < 7) (ha : a < 6) (hb : b < 6) (hab : a ≠ b) (h1 : ∀ g : Nat, g < 90 → g ≠ 85 → md_ef F Ln Sg F1 L1 S1 g) (h2 : ∀ g : Nat, g < 90 → g ≠ 42 + (7 * a + k) → md_ef F1 L1 S1 F2 L2 S2 g) (f2 : md_f F2 L2 S2 (42 + (7 * a + k)) (M b k)) (h3 : ∀ g : Nat, g < 90 → g ≠ 42 + (7 * b + k) → md_ef F2 L2 S2 F3 L3 S3 g) (f3 : md_f F3 L3 S3 (42 + (7 * b + k)) (M a k)) : md_A F3 L3 S3 42 (pe_fl (pe_swk (k + 1) M a b)) := by
  intro q hq
  obtain ⟨i, j, hj, rfl⟩ : ∃ i j : Nat, j < 7 ∧ q = 7 * i + j := ⟨q / 7, q % 7, by omega, by omega⟩
  rw [pe_fl_at _ hj]
  by_cases q1 : 7 * i + j = 7 * b + k
  · have : i = b := by omega
    have : j = k := by omega
    subst i j
    rw [show pe_swk (k + 1) M a b b k = M a k by unfold pe_swk; rw [if_pos (Nat.lt_succ_self k), if_neg (Ne.symm hab), if_pos rfl]]
    exact f3
  · by_cases q2 : 7 * i + j = 7 * a + k
    · have : i = a := by omega
      have : j = k := by omega
      subst i j
      rw [show pe_swk (k + 1) M a b a k = M b k by unfold pe_swk; rw [if_pos (Nat.lt_succ_self k), if_pos rfl]]
      exact (h3 _ (by omega) (by omega)).f f2
    · have e : pe_swk (k + 1) M a b i j = pe_swk k M a b i j := by
        unfold pe_swk
        by_cases w : j = k
        · subst w
          rw [if_pos (Nat.lt_succ_self j), if_neg (Nat.lt_irrefl j), if_neg (fun q => q2 (by rw [q])), if_neg (fun q => q1 (by rw [q]))]
        · by_cases w2 : j < k
          · rw [if_pos (by omega), if_pos w2]
          · rw [if_neg (by omega), if_neg w2]
      rw [e]
      have h0 := h (7 * i + j) hq
      rw [pe_fl_at _ hj] at h0
      exact (h3 _ (by omega) (by omega)).f ((h2 _ (by omega) (by omega)).f ((h1 _ (by omega) (by omega)).f h0))

theorem md_divb {x y : Rat} {a b : Nat} (hy0 : y ≠ 0) (h1 : ((x.num.natAbs : Nat) : Int) < hx_p a) (h2 : ((x.den : Nat) : Int) < hx_p a) (h3 : ((y.num.natAbs : Nat) : Int) < hx_p b) (h4 : ((y.den : Nat) : Int) < hx_p b) : (((x / y).num.natAbs : Nat) : Int) < hx_p (a + b) ∧ (((x / y).den : Nat) : Int) < hx_p (a + b) := by
  have ex := (Rat.mkRat_eq_div x.num x.den).symm.trans (Rat.mkRat_self _)
  have ey := (Rat.mkRat_eq_div y.num y.den).symm.trans (Rat.mkRat_self _)
  have hxd := pe_ne_n (Nat.ne_of_gt x.den_pos)
  have hyd := pe_ne_n (Nat.ne_of_gt y.den_pos)
  have hyn : y.num ≠ 0 := fun q => hy0 (Rat.num_eq_zero.mp q)
  have hyn2 := pe_ne_z hyn
  have e : x / y = ((x.num * (y.den : Int) : Int) : Rat) / (((x.den : Int) * y.num : Int) : Rat) := by
    rw [Rat.intCast_mul, Rat.intCast_mul, show (((x.den : Nat) : Int) : Rat) = (x.den : Rat) from rfl, show (((y.den : Nat) : Int) : Rat) = (y.den : Rat) from rfl]
    generalize (x.num : Rat) = a1 at *
    generalize (x.den : Rat) = a2 at *
    generalize (y.num : Rat) = a3 at *
    generalize (y.den : Rat) = a4 at *
    rw [← ex, ← ey]
    grind
  have r := pe_lowest (Int.mul_ne_zero (by have := x.den_pos; omega) hyn) e
  rw [Int.natAbs_mul, Int.natAbs_mul, Int.natAbs_natCast, Int.natAbs_natCast] at r
  have m1 := md_mulb h1 h4
  have m2 := md_mulb h2 h3
  exact ⟨by omega, by omega⟩
theorem md_mulq {x y : Rat} {a b : Nat} (h1 : ((x.num.natAbs : Nat) : Int) < hx_p a) (h2 : ((x.den : Nat) : Int) < hx_p a) (h3 : ((y.num.natAbs : Nat) : Int) < hx_p b) (h4 : ((y.den : Nat) : Int) < hx_p b) : (((x * y).num.natAbs : Nat) : Int) < hx_p (a + b) ∧ (((x * y).den : Nat) : Int) < hx_p (a + b) := by
  have ex := (Rat.mkRat_eq_div x.num x.den).symm.trans (Rat.mkRat_self _)
  have ey := (Rat.mkRat_eq_div y.num y.den).symm.trans (Rat.mkRat_self _)
  have hxd := pe_ne_n (Nat.ne_of_gt x.den_pos)
  have hyd := pe_ne_n (Nat.ne_of_gt y.den_pos)
  have e : x * y = ((x.num * y.num : Int) : Rat) / (((x.den : Int) * (y.den : Int) : Int) : Rat) := by
    rw [Rat.intCast_mul, Rat.intCast_mul, show (((x.den : Nat) : Int) : Rat) = (x.den : Rat) from rfl, show (((y.den : Nat) : Int) : Rat) = (y.den : Rat) from rfl]
    generalize (x.num : Rat) = a1 at *
    generalize (x.den : Rat) = a2 at *
    generalize (y.num : Rat) = a3 at *
    generalize (y.den : Rat) = a4 at *
    rw [← ex, ← ey]
    grind
  have r := pe_lowest (Int.mul_ne_zero (by have := x.den_pos; omega) (by have := y.den_pos; omega)) e
  rw [Int.natAbs_mul, Int.natAbs_mul, Int.natAbs_natCast, Int.natAbs_natCast] at r
  have m1 := md_mulb h1 h3
  have m2 := md_mulb h2 h4
  exact ⟨by omega, by omega⟩
/-- row a cleared by row b in the first k columns -/
def pe_clk (k : Nat) (M : Nat → Nat → Rat) (a b c i j : Nat) : Rat := if i = a ∧ j < k then M i j - M i c / M b c * M b j else M i j
theorem pe_clk_0 (M : Nat → Nat → Rat) (a b c : Nat) : pe_clk 0 M a b c = M := by
  funext i j; unfold pe_clk; rw [if_neg (fun q => Nat.not_lt_zero j q.2)]
theorem pe_clk_k (k : Nat) (M : Nat → Nat → Rat) (a b c i : Nat) : pe_clk k M a b c i k = M i k := if_neg (fun q => Nat.lt_irrefl k q.2)
theorem pe_clk_r (k : Nat) (M : Nat → Nat → Rat) {a b : Nat} (c j : Nat) (h : a ≠ b) : pe_clk k M a b c b j = M b j := if_neg (fun q => h q.1.symm)
theorem pe_clk_z (k : Nat) (M : Nat → Nat → Rat) (a b c : Nat) (h : M a c = 0) : pe_clk k M a b c = M := by
  funext i j; unfold pe_clk
  by_cases q : i = a ∧ j < k
  · rw [if_pos q, q.1, h, Rat.div_def, Rat.zero_mul, Rat.zero_mul, Rat.sub_eq_add_neg, Rat.neg_zero, Rat.add_zero]
  · rw [if_neg q]
theorem pe_clk_s (k : Nat) (M : Nat → Nat → Rat) (a b c : Nat) (h : M b k = 0) : pe_clk (k + 1) M a b c = pe_clk k M a b c := by
  funext i j; unfold pe_clk
  by_cases q : i = a ∧ j < k
  · rw [if_pos q, if_pos ⟨q.1, by omega⟩]
  · rw [if_neg q]
    by_cases w : i = a ∧ j < k + 1
    · have : j = k := by omega
      rw [if_pos w, this, h, Rat.mul_zero, Rat.sub_eq_add_neg, Rat.neg_zero, Rat.add_zero]
    · rw [if_neg w]
theorem md_clk {F Ln Sg F' Ln' Sg' : Nat → Int} {M : Nat → Nat → Rat} {k a b c : Nat} (h : md_A F Ln Sg 42 (pe_fl (pe_clk k M a b c))) (hk : k < 7) (ha : a < 6) (h1 : ∀ g : Nat, g < 90 → g ≠ 42 + (7 * a + k) → g < 85 → md_ef F Ln Sg F' Ln' Sg' g) (f1 : md_f F' Ln' Sg' (42 + (7 * a + k)) (M a k - M a c / M b c * M b k)) : md_A F' Ln' Sg' 42 (pe_fl (pe_clk (k + 1) M a b c)) := by
  intro q hq
  obtain ⟨i, j, hj, rfl⟩ : ∃ i j : Nat, j < 7 ∧ q = 7 * i + j := ⟨q / 7, q % 7, by omega, by omega⟩
  rw [pe_fl_at _ hj]
  by_cases q2 : 7 * i + j = 7 * a + k
  · have : i = a := by omega
    have : j = k := by omega
    subst i j
    rw [show pe_clk (k + 1) M a b c a k = M a k - M a c / M b c * M b k from if_pos ⟨rfl, Nat.lt_succ_self k⟩]
    exact f1
  · have e : pe_clk (k + 1) M a b c i j = pe_clk k M a b c i j := by
      unfold pe_clk
      by_cases w : i = a ∧ j < k
      · rw [if_pos w, if_pos ⟨w.1, by omega⟩]
      · rw [if_neg w, if_neg (fun z => w ⟨z.1, by omega⟩)]
    rw [e]
    have h0 := h (7 * i + j) hq
    rw [pe_fl_at _ hj] at h0
    exact (h1 _ (by omega) (by omega) (by omega)).f h0
theorem pe_m1 (x y : Rat) : x + ((-1 : Int) : Rat) * y = x - y := by
  rw [show (((-1 : Int)) : Rat) = -1 from rfl]; grind
set_option maxHeartbeats 4000000 in
set_option maxRecDepth 100000 in
/-- Model.exchange -/
theorem c_exchange (l : Launch) (D : va_G) (cI cJ cE cF cR : ClassId) (mo fg le sg tp bl pr rs nn : Nat) (dn sv rk tn ms th : Int) (a b : Nat) (F Ln Sg : Nat → Int) (M : Nat → Nat → Rat) (hn : nn ≤ 6) (ha : a < 6) (hb9 : b < 6) (hab : a ≠ b) (hM : md_A F Ln Sg 42 (pe_fl M)) : Cv l D (zty cI cJ cE cF cR) yX11_exchange wsX11_exchange (zRm 3 75) 0 0 [.ref (mo), .int (iZ (((a : Nat) : Int))), .int (iZ (((b : Nat) : Int)))] [(mo, mo_ fg le sg tp bl pr rs (((nn : Nat) : Int)) (dn) (sv) (rk) (tn) (ms) (th)), (fg, aI cI (52200) (F)), (le, aI cI (190) (Ln)), (sg, aI cI (90) (Sg))] (fun w1 => ∃ (G L1 S1 : Nat → Int), w1 = [(mo, mo_ fg le sg tp bl pr rs (((nn : Nat) : Int)) (dn) (sv) (rk) (tn) (ms) (th)), (fg, aI cI (52200) (G)), (le, aI cI (190) (L1)), (sg, aI cI (90) (S1))] ∧ (∀ g : Nat, g < 90 → g < 42 ∨ g = 84 → md_ef F Ln Sg G L1 S1 g) ∧ md_A G L1 S1 42 (pe_fl (pe_sw nn M a b))) := by
  unfold Cv
  refine zs (Qc := zQv D _ _) (cc := cX11_exchange) (maxL := 6) (ret := none) (by decide) rfl (Nat.le_of_ble_eq_true rfl) ?_
  intro zp ze s zm below meth zc ls A args Q hQ hx hb hr hts hown hlk hml hnm hN hA hK hP hD hS hl
  have q_f_RX11_26_LimbSolverModel_n_I := hts (.fieldLink RX11 26 "LimbSolverModel" "n" "I") (by decide +kernel)
  have hin11 : ∀ w ∈ wsX110, w ∈ wsX11_exchange := by decide +kernel
  have hl : lv_has ls 6 [(0, .ref (mo)), (1, .int (iZ (((a : Nat) : Int)))), (2, .int (iZ (((b : Nat) : Int))))] := hl
  have lp : ∀ (t : Nat) (j : Nat) (G : Nat → Int) (L1 : Nat → Int) (S1 : Nat → Int) (H : Heap) (locs : List Loc) (ls : Array Slot), (j + t = nn + 1) → (∀ g : Nat, g < 90 → g < 42 ∨ g = 84 → md_ef F Ln Sg G L1 S1 g) → (md_A G L1 S1 42 (pe_fl (pe_swk j M a b))) →  va_P D vwCl [(mo, mo_ fg le sg tp bl pr rs (((nn : Nat) : Int)) (dn) (sv) (rk) (tn) (ms) (th)), (fg, aI cI (52200) (G)), (le, aI cI (190) (L1)), (sg, aI cI (90) (S1))] H → va_D A [(mo, mo_ fg le sg tp bl pr rs (((nn : Nat) : Int)) (dn) (sv) (rk) (tn) (ms) (th)), (fg, aI cI (52200) (G)), (le, aI cI (190) (L1)), (sg, aI cI (90) (S1))] → va_S A s.heap H locs → lv_has ls 6 [(3, .int (iZ (((j : Nat) : Int)))), (0, .ref (mo)), (1, .int (iZ (((a : Nat) : Int)))), (2, .int (iZ (((b : Nat) : Int))))] → W zp l ze (zRm 3 75) s zm args below meth zc H locs 0 0 Q (F0 zm 2 ls []) := by
    intro t
    induction t with
    | zero =>
      intro j G L1 S1 H locs ls hjt hke hMj hP hD hS hl
      refine lv_iload_n hx hb dX11_exchange_2 rfl (lv_at hl 0 rfl) ?_
      refine lv_aload_n hx hb dX11_exchange_3 rfl (lv_at hl 1 rfl) ?_
      refine va_get (D := D) (ci := 11) (v := .int (iZ (((nn : Nat) : Int)))) (C := RX11) (T := TX11) (N := 14) hx hb hts hin11 hown hK hP 0 rfl rfl 5 (by decide) q_f_RX11_26_LimbSolverModel_n_I (fun _ h9 => h9) rfl dX11_exchange_4 ?_
      refine zr_icmp_gt hx hb 60 ⟨by omega, by omega⟩ ⟨by omega, by omega⟩ dX11_exchange_7 (by decide) (fun h_7 => ?_) (fun h_7 => ?_)
      · exact zr_vret hQ hx hb hr hlk dX11_exchange_60 hK hP hD hS (by omega) (by omega) (⟨G, L1, S1, rfl, hke, by rw [← pe_swk_n, ← show j = nn + 1 by omega]; exact hMj⟩)
      · exfalso; omega
    | succ t ih =>
      intro j G L1 S1 H locs ls hjt hke hMj hP hD hS hl
      refine lv_iload_n hx hb dX11_exchange_2 rfl (lv_at hl 0 rfl) ?_
      refine lv_aload_n hx hb dX11_exchange_3 rfl (lv_at hl 1 rfl) ?_
      refine va_get (D := D) (ci := 11) (v := .int (iZ (((nn : Nat) : Int)))) (C := RX11) (T := TX11) (N := 14) hx hb hts hin11 hown hK hP 0 rfl rfl 5 (by decide) q_f_RX11_26_LimbSolverModel_n_I (fun _ h9 => h9) rfl dX11_exchange_4 ?_
      refine zr_icmp_gt hx hb 60 ⟨by omega, by omega⟩ ⟨by omega, by omega⟩ dX11_exchange_7 (by decide) (fun h_7 => ?_) (fun h_7 => ?_)
      · exfalso; omega
      · have hxa := hMj (7 * a + j) (by omega)
        rw [pe_fl_at _ (by omega), pe_swk_k] at hxa
        have hxb := hMj (7 * b + j) (by omega)
        rw [pe_fl_at _ (by omega), pe_swk_k] at hxb
        refine lv_bipush (v := iZ 42) hx hb dX11_exchange_10 (by decide) ?_
        refine lv_iload_n hx hb dX11_exchange_12 rfl (lv_at hl 2 rfl) ?_
        refine lv_iload_n hx hb dX11_exchange_13 rfl (lv_at hl 0 rfl) ?_
        refine zc_Si (As := [.int (iZ (((a : Nat) : Int))), .int (iZ (((j : Nat) : Int)))]) (rest := [.int (iZ (42))]) (wr := [(mo, mo_ fg le sg tp bl pr rs (((nn : Nat) : Int)) (dn) (sv) (rk) (tn) (ms) (th)), (fg, aI cI (52200) (G)), (le, aI cI (190) (L1)), (sg, aI cI (90) (S1))]) ⟨hx, hb, hml, hown, hts⟩ (c_place l D cI cJ cE cF cR (a) (j) (by omega) (by omega)) (va_cwS 2 hts gX11_exchange_X11_place rfl rfl rfl (by decide +kernel) ⟨Nat.le_of_ble_eq_true rfl, Nat.le_of_ble_eq_true rfl⟩) hN hK hP hD hS hA [] [0, 1, 2, 3] rfl rfl (by decide) (by decide) (by decide) rfl hl.1 (Nat.le_of_ble_eq_true rfl) dX11_exchange_14 ⟨by decide, by decide⟩ (fun z14 w1 H locs hz14 hp hP hD hS => ?_)
        obtain ⟨hw9, hx0⟩ := hp
        subst hw9
        subst hx0
        have hP := hP.sub (ws' := [(mo, mo_ fg le sg tp bl pr rs (((nn : Nat) : Int)) (dn) (sv) (rk) (tn) (ms) (th)), (fg, aI cI (52200) (G)), (le, aI cI (190) (L1)), (sg, aI cI (90) (S1))]) [0, 1, 2, 3] rfl
        have hD := hD.sub (ws' := [(mo, mo_ fg le sg tp bl pr rs (((nn : Nat) : Int)) (dn) (sv) (rk) (tn) (ms) (th)), (fg, aI cI (52200) (G)), (le, aI cI (190) (L1)), (sg, aI cI (90) (S1))]) [0, 1, 2, 3] (by decide) rfl
        refine zr_iadd hx hb dX11_exchange_17 ?_
        refine zr_eqi (((42 + (7 * a + j) : Nat) : Int)) (by omega) ?_
        refine lv_istore (lv' := [(4, .int (iZ (((42 + (7 * a + j) : Nat) : Int)))), (3, .int (iZ (((j : Nat) : Int)))), (0, .ref (mo)), (1, .int (iZ (((a : Nat) : Int)))), (2, .int (iZ (((b : Nat) : Int))))]) hx hb dX11_exchange_18 hl (by decide) rfl (fun ls hl => ?_)
        refine lv_bipush (v := iZ 42) hx hb dX11_exchange_20 (by decide) ?_
        refine lv_iload_n hx hb dX11_exchange_22 rfl (lv_at hl 4 rfl) ?_
        refine lv_iload_n hx hb dX11_exchange_23 rfl (lv_at hl 1 rfl) ?_
        refine zc_Si (As := [.int (iZ (((b : Nat) : Int))), .int (iZ (((j : Nat) : Int)))]) (rest := [.int (iZ (42))]) (wr := [(mo, mo_ fg le sg tp bl pr rs (((nn : Nat) : Int)) (dn) (sv) (rk) (tn) (ms) (th)), (fg, aI cI (52200) (G)), (le, aI cI (190) (L1)), (sg, aI cI (90) (S1))]) ⟨hx, hb, hml, hown, hts⟩ (c_place l D cI cJ cE cF cR (b) (j) (by omega) (by omega)) (va_cwS 2 hts gX11_exchange_X11_place rfl rfl rfl (by decide +kernel) ⟨Nat.le_of_ble_eq_true rfl, Nat.le_of_ble_eq_true rfl⟩) hN hK hP hD hS hA [] [0, 1, 2, 3] rfl rfl (by decide) (by decide) (by decide) rfl hl.1 (Nat.le_of_ble_eq_true rfl) dX11_exchange_24 ⟨by decide, by decide⟩ (fun z24 w1 H locs hz24 hp hP hD hS => ?_)
        obtain ⟨hw9, hx0⟩ := hp
        subst hw9
        subst hx0
        have hP := hP.sub (ws' := [(mo, mo_ fg le sg tp bl pr rs (((nn : Nat) : Int)) (dn) (sv) (rk) (tn) (ms) (th)), (fg, aI cI (52200) (G)), (le, aI cI (190) (L1)), (sg, aI cI (90) (S1))]) [0, 1, 2, 3] rfl
        have hD := hD.sub (ws' := [(mo, mo_ fg le sg tp bl pr rs (((nn : Nat) : Int)) (dn) (sv) (rk) (tn) (ms) (th)), (fg, aI cI (52200) (G)), (le, aI cI (190) (L1)), (sg, aI cI (90) (S1))]) [0, 1, 2, 3] (by decide) rfl
        refine zr_iadd hx hb dX11_exchange_27 ?_
        refine zr_eqi (((42 + (7 * b + j) : Nat) : Int)) (by omega) ?_
        refine lv_istore (lv' := [(5, .int (iZ (((42 + (7 * b + j) : Nat) : Int)))), (4, .int (iZ (((42 + (7 * a + j) : Nat) : Int)))), (3, .int (iZ (((j : Nat) : Int)))), (0, .ref (mo)), (1, .int (iZ (((a : Nat) : Int)))), (2, .int (iZ (((b : Nat) : Int))))]) hx hb dX11_exchange_28 hl (by decide) rfl (fun ls hl => ?_)
        refine lv_aload_n hx hb dX11_exchange_30 rfl (lv_at hl 3 rfl) ?_
        refine lv_bipush (v := iZ 85) hx hb dX11_exchange_31 (by decide) ?_
        refine zr_eqi (((85 : Nat) : Int)) (by rfl) ?_
        refine lv_iload hx hb dX11_exchange_33 (lv_at hl 1 rfl) ?_
        refine zc_Vv (As := [.int (iZ (((85 : Nat) : Int))), .int (iZ (((42 + (7 * a + j) : Nat) : Int)))]) (rest := []) (wr := []) ⟨hx, hb, hml, hown, hts⟩ (c_massign l D cI cJ cE cF cR mo fg le sg tp bl pr rs ((nn : Nat) : Int) dn sv rk tn ms th (85) (42 + (7 * a + j)) 180 G L1 S1 (M a j) (by decide) (by omega) (by omega) (hxa) (hxa.b (by omega)).1 (hxa.b (by omega)).2 ((mdC_b _).1) ((mdC_b _).1)) (cwV 2 hts gX11_exchange_X11_assign rfl rfl rfl (by decide +kernel) ⟨Nat.le_of_ble_eq_true rfl, Nat.le_of_ble_eq_true rfl⟩) hN hK hP hD hS hA [0, 1, 2, 3] [] rfl rfl (by decide) (by decide) (by decide) (q0 := 0) (ci := 11) rfl rfl rfl rfl hl.1 (Nat.le_of_ble_eq_true rfl) dX11_exchange_35 ⟨by decide, by decide⟩ (fun w1 H locs hp hP hD hS => ?_)
        obtain ⟨F2, L2, S2, hw9, hk2, hf2⟩ := hp
        subst hw9
        have hP := hP.sub (ws' := [(mo, mo_ fg le sg tp bl pr rs (((nn : Nat) : Int)) (dn) (sv) (rk) (tn) (ms) (th)), (fg, aI cI (52200) (F2)), (le, aI cI (190) (L2)), (sg, aI cI (90) (S2))]) [0, 1, 2, 3] rfl
        have hD := hD.sub (ws' := [(mo, mo_ fg le sg tp bl pr rs (((nn : Nat) : Int)) (dn) (sv) (rk) (tn) (ms) (th)), (fg, aI cI (52200) (F2)), (le, aI cI (190) (L2)), (sg, aI cI (90) (S2))]) [0, 1, 2, 3] (by decide) rfl
        refine lv_aload_n hx hb dX11_exchange_38 rfl (lv_at hl 3 rfl) ?_
        refine lv_iload hx hb dX11_exchange_39 (lv_at hl 1 rfl) ?_
        refine lv_iload hx hb dX11_exchange_41 (lv_at hl 0 rfl) ?_
        refine zc_Vv (As := [.int (iZ (((42 + (7 * a + j) : Nat) : Int))), .int (iZ (((42 + (7 * b + j) : Nat) : Int)))]) (rest := []) (wr := []) ⟨hx, hb, hml, hown, hts⟩ (c_massign l D cI cJ cE cF cR mo fg le sg tp bl pr rs ((nn : Nat) : Int) dn sv rk tn ms th (42 + (7 * a + j)) (42 + (7 * b + j)) 180 F2 L2 S2 (M b j) (by omega) (by omega) (by omega) ((hk2 _ (by omega) (by omega)).f hxb) (hxb.b (by omega)).1 (hxb.b (by omega)).2 ((mdC_b _).1) ((mdC_b _).1)) (cwV 2 hts gX11_exchange_X11_assign rfl rfl rfl (by decide +kernel) ⟨Nat.le_of_ble_eq_true rfl, Nat.le_of_ble_eq_true rfl⟩) hN hK hP hD hS hA [0, 1, 2, 3] [] rfl rfl (by decide) (by decide) (by decide) (q0 := 0) (ci := 11) rfl rfl rfl rfl hl.1 (Nat.le_of_ble_eq_true rfl) dX11_exchange_43 ⟨by decide, by decide⟩ (fun w1 H locs hp hP hD hS => ?_)
        obtain ⟨F3, L3, S3, hw9, hk3, hf3⟩ := hp
        subst hw9
        have hP := hP.sub (ws' := [(mo, mo_ fg le sg tp bl pr rs (((nn : Nat) : Int)) (dn) (sv) (rk) (tn) (ms) (th)), (fg, aI cI (52200) (F3)), (le, aI cI (190) (L3)), (sg, aI cI (90) (S3))]) [0, 1, 2, 3] rfl
        have hD := hD.sub (ws' := [(mo, mo_ fg le sg tp bl pr rs (((nn : Nat) : Int)) (dn) (sv) (rk) (tn) (ms) (th)), (fg, aI cI (52200) (F3)), (le, aI cI (190) (L3)), (sg, aI cI (90) (S3))]) [0, 1, 2, 3] (by decide) rfl
        refine lv_aload_n hx hb dX11_exchange_46 rfl (lv_at hl 3 rfl) ?_
        refine lv_iload hx hb dX11_exchange_47 (lv_at hl 0 rfl) ?_
        refine lv_bipush (v := iZ 85) hx hb dX11_exchange_49 (by decide) ?_
        refine zr_eqi (((85 : Nat) : Int)) (by rfl) ?_
        refine zc_Vv (As := [.int (iZ (((42 + (7 * b + j) : Nat) : Int))), .int (iZ (((85 : Nat) : Int)))]) (rest := []) (wr := []) ⟨hx, hb, hml, hown, hts⟩ (c_massign l D cI cJ cE cF cR mo fg le sg tp bl pr rs ((nn : Nat) : Int) dn sv rk tn ms th (42 + (7 * b + j)) (85) 180 F3 L3 S3 (M a j) (by omega) (by decide) (by omega) ((hk3 _ (by omega) (by omega)).f hf2) (hxa.b (by omega)).1 (hxa.b (by omega)).2 ((mdC_b _).1) ((mdC_b _).1)) (cwV 2 hts gX11_exchange_X11_assign rfl rfl rfl (by decide +kernel) ⟨Nat.le_of_ble_eq_true rfl, Nat.le_of_ble_eq_true rfl⟩) hN hK hP hD hS hA [0, 1, 2, 3] [] rfl rfl (by decide) (by decide) (by decide) (q0 := 0) (ci := 11) rfl rfl rfl rfl hl.1 (Nat.le_of_ble_eq_true rfl) dX11_exchange_51 ⟨by decide, by decide⟩ (fun w1 H locs hp hP hD hS => ?_)
        obtain ⟨F4, L4, S4, hw9, hk4, hf4⟩ := hp
        subst hw9
        have hP := hP.sub (ws' := [(mo, mo_ fg le sg tp bl pr rs (((nn : Nat) : Int)) (dn) (sv) (rk) (tn) (ms) (th)), (fg, aI cI (52200) (F4)), (le, aI cI (190) (L4)), (sg, aI cI (90) (S4))]) [0, 1, 2, 3] rfl
        have hD := hD.sub (ws' := [(mo, mo_ fg le sg tp bl pr rs (((nn : Nat) : Int)) (dn) (sv) (rk) (tn) (ms) (th)), (fg, aI cI (52200) (F4)), (le, aI cI (190) (L4)), (sg, aI cI (90) (S4))]) [0, 1, 2, 3] (by decide) rfl
        refine lv_iinc (v := iZ (((j + 1 : Nat) : Int))) (lv' := [(3, .int (iZ (((j + 1 : Nat) : Int)))), (5, .int (iZ (((42 + (7 * b + j) : Nat) : Int)))), (4, .int (iZ (((42 + (7 * a + j) : Nat) : Int)))), (0, .ref (mo)), (1, .int (iZ (((a : Nat) : Int)))), (2, .int (iZ (((b : Nat) : Int))))]) hx hb dX11_exchange_54 hl (k := 2) rfl (by rw [show ((j + 1 : Nat) : Int) = ((j : Nat) : Int) + 1 by omega]; exact iZ_add _ _) (by decide) rfl (fun ls hl => ?_)
        refine lv_goto (tgt := 2) hx hb dX11_exchange_57 (by decide) ?_
        exact ih (j + 1) F4 L4 S4 H locs ls (by omega) (fun g h1 h2 => (((hke g h1 h2).trans (hk2 g h1 (by omega))).trans (hk3 g h1 (by omega))).trans (hk4 g h1 (by omega))) (md_exch hMj (by omega) ha hb9 hab hk2 hk3 hf3 hk4 hf4) hP hD hS (lv_sub hl [0, 3, 4, 5] rfl)
  refine lv_iconst (v := iZ 0) hx hb dX11_exchange_0 rfl ?_
  refine lv_istore_n (lv' := [(3, .int (iZ (0))), (0, .ref (mo)), (1, .int (iZ (((a : Nat) : Int)))), (2, .int (iZ (((b : Nat) : Int))))]) hx hb dX11_exchange_1 rfl hl (by decide) rfl (fun ls hl => ?_)
  exact lp (nn + 1) 0 F Ln Sg s.heap [] ls (by omega) (fun g _ _ => md_ef.refl F Ln Sg g) (by rw [pe_swk_0]; exact hM) hP hD hS (lv_sub hl [0, 1, 2, 3] rfl)

set_option maxHeartbeats 4000000 in
set_option maxRecDepth 100000 in
/-- Model.clearCell -/
theorem c_clearCell (l : Launch) (D : va_G) (cI cJ cE cF cR : ClassId) (mo fg le sg tp bl pr rs nn : Nat) (dn sv rk tn ms th : Int) (a b c9 : Nat) (F Ln Sg T0 B0 : Nat → Int) (M : Nat → Nat → Rat) (hn : nn ≤ 6) (ha : a < 6) (hb9 : b < 6) (hc9 : c9 < 7) (hab : a ≠ b) (hp0 : M b c9 ≠ 0) (hM : md_A F Ln Sg 42 (pe_fl M)) (hnew : ∀ j : Nat, j ≤ nn → (((M a j - M a c9 / M b c9 * M b j).num.natAbs : Nat) : Int) < hx_p 180 ∧ (((M a j - M a c9 / M b c9 * M b j).den : Nat) : Int) < hx_p 180) : Cv l D (zty cI cJ cE cF cR) yX11_clearCell wsX11_clearCell (zRm 8 255) 0 0 [.ref (mo), .int (iZ (((a : Nat) : Int))), .int (iZ (((b : Nat) : Int))), .int (iZ (((c9 : Nat) : Int)))] [(mo, mo_ fg le sg tp bl pr rs (((nn : Nat) : Int)) (dn) (sv) (rk) (tn) (ms) (th)), (fg, aI cI (52200) (F)), (le, aI cI (190) (Ln)), (sg, aI cI (90) (Sg)), (tp, aI cI (1300) (T0)), (bl, aI cI (1300) (B0))] (fun w1 => ∃ (G L1 S1 T1 B1 : Nat → Int), w1 = [(mo, mo_ fg le sg tp bl pr rs (((nn : Nat) : Int)) (dn) (sv) (rk) (tn) (ms) (th)), (fg, aI cI (52200) (G)), (le, aI cI (190) (L1)), (sg, aI cI (90) (S1)), (tp, aI cI (1300) (T1)), (bl, aI cI (1300) (B1))] ∧ (∀ g : Nat, g < 90 → g < 42 ∨ g = 84 → md_ef F Ln Sg G L1 S1 g) ∧ md_A G L1 S1 42 (pe_fl (pe_clk (nn + 1) M a b c9))) := by
  unfold Cv
  refine zs (Qc := zQv D _ _) (cc := cX11_clearCell) (maxL := 7) (ret := none) (by decide) rfl (Nat.le_of_ble_eq_true rfl) ?_
  intro zp ze s zm below meth zc ls A args Q hQ hx hb hr hts hown hlk hml hnm hN hA hK hP hD hS hl
  have q_f_RX11_26_LimbSolverModel_n_I := hts (.fieldLink RX11 26 "LimbSolverModel" "n" "I") (by decide +kernel)
  have hin11 : ∀ w ∈ wsX110, w ∈ wsX11_clearCell := by decide +kernel
  have q_f_RX11_17_LimbSolverModel_sign_I := hts (.fieldLink RX11 17 "LimbSolverModel" "sign" "[I") (by decide +kernel)
  have hl : lv_has ls 7 [(0, .ref (mo)), (1, .int (iZ (((a : Nat) : Int)))), (2, .int (iZ (((b : Nat) : Int)))), (3, .int (iZ (((c9 : Nat) : Int))))] := hl
  have hxa := hM (7 * a + c9) (by omega)
  rw [pe_fl_at _ (by omega)] at hxa
  have hxb := hM (7 * b + c9) (by omega)
  rw [pe_fl_at _ (by omega)] at hxb
  have hQb := md_divb hp0 (hxa.b (by omega)).1 (hxa.b (by omega)).2 (hxb.b (by omega)).1 (hxb.b (by omega)).2
  have lp : ∀ (t : Nat) (j : Nat) (G : Nat → Int) (L1 : Nat → Int) (S1 : Nat → Int) (T1 : Nat → Int) (B1 : Nat → Int) (H : Heap) (locs : List Loc) (ls : Array Slot), (j + t = nn + 1) → (∀ g : Nat, g < 90 → g < 42 ∨ g = 84 → md_ef F Ln Sg G L1 S1 g) → (md_A G L1 S1 42 (pe_fl (pe_clk j M a b c9))) → (md_f G L1 S1 86 (M a c9 / M b c9)) →  va_P D vwCl [(mo, mo_ fg le sg tp bl pr rs (((nn : Nat) : Int)) (dn) (sv) (rk) (tn) (ms) (th)), (fg, aI cI (52200) (G)), (le, aI cI (190) (L1)), (sg, aI cI (90) (S1)), (tp, aI cI (1300) (T1)), (bl, aI cI (1300) (B1))] H → va_D A [(mo, mo_ fg le sg tp bl pr rs (((nn : Nat) : Int)) (dn) (sv) (rk) (tn) (ms) (th)), (fg, aI cI (52200) (G)), (le, aI cI (190) (L1)), (sg, aI cI (90) (S1)), (tp, aI cI (1300) (T1)), (bl, aI cI (1300) (B1))] → va_S A s.heap H locs → lv_has ls 7 [(5, .int (iZ (((j : Nat) : Int)))), (0, .ref (mo)), (1, .int (iZ (((a : Nat) : Int)))), (2, .int (iZ (((b : Nat) : Int)))), (3, .int (iZ (((c9 : Nat) : Int)))), (4, .int (iZ (((42 + (7 * a + c9) : Nat) : Int))))] → W zp l ze (zRm 8 255) s zm args below meth zc H locs 0 0 Q (F0 zm 40 ls []) := by
    intro t
    induction t with
    | zero =>
      intro j G L1 S1 T1 B1 H locs ls hjt hke hMj h2f hP hD hS hl
      refine lv_iload hx hb dX11_clearCell_40 (lv_at hl 0 rfl) ?_
      refine lv_aload_n hx hb dX11_clearCell_42 rfl (lv_at hl 1 rfl) ?_
      refine va_get (D := D) (ci := 11) (v := .int (iZ (((nn : Nat) : Int)))) (C := RX11) (T := TX11) (N := 14) hx hb hts hin11 hown hK hP 0 rfl rfl 5 (by decide) q_f_RX11_26_LimbSolverModel_n_I (fun _ h9 => h9) rfl dX11_clearCell_43 ?_
      refine zr_icmp_gt hx hb 119 ⟨by omega, by omega⟩ ⟨by omega, by omega⟩ dX11_clearCell_46 (by decide) (fun h_46 => ?_) (fun h_46 => ?_)
      · exact zr_vret hQ hx hb hr hlk dX11_clearCell_119 hK hP hD hS (by omega) (by omega) (⟨G, L1, S1, T1, B1, rfl, hke, by rw [← show j = nn + 1 by omega]; exact hMj⟩)
      · exfalso; omega
    | succ t ih =>
      intro j G L1 S1 T1 B1 H locs ls hjt hke hMj h2f hP hD hS hl
      refine lv_iload hx hb dX11_clearCell_40 (lv_at hl 0 rfl) ?_
      refine lv_aload_n hx hb dX11_clearCell_42 rfl (lv_at hl 1 rfl) ?_
      refine va_get (D := D) (ci := 11) (v := .int (iZ (((nn : Nat) : Int)))) (C := RX11) (T := TX11) (N := 14) hx hb hts hin11 hown hK hP 0 rfl rfl 5 (by decide) q_f_RX11_26_LimbSolverModel_n_I (fun _ h9 => h9) rfl dX11_clearCell_43 ?_
      refine zr_icmp_gt hx hb 119 ⟨by omega, by omega⟩ ⟨by omega, by omega⟩ dX11_clearCell_46 (by decide) (fun h_46 => ?_) (fun h_46 => ?_)
      · exfalso; omega
      · have hxa := hMj (7 * a + j) (by omega)
        rw [pe_fl_at _ (by omega), pe_clk_k] at hxa
        have hxb := hMj (7 * b + j) (by omega)
        rw [pe_fl_at _ (by omega), pe_clk_r _ _ _ _ hab] at hxb
        have hPb := md_mulq hQb.1 hQb.2 (hxb.b (by omega)).1 (hxb.b (by omega)).2
        refine lv_bipush (v := iZ 42) hx hb dX11_clearCell_49 (by decide) ?_
        refine lv_iload_n hx hb dX11_clearCell_51 rfl (lv_at hl 3 rfl) ?_
        refine lv_iload hx hb dX11_clearCell_52 (lv_at hl 0 rfl) ?_
        refine zc_Si (As := [.int (iZ (((b : Nat) : Int))), .int (iZ (((j : Nat) : Int)))]) (rest := [.int (iZ (42))]) (wr := [(mo, mo_ fg le sg tp bl pr rs (((nn : Nat) : Int)) (dn) (sv) (rk) (tn) (ms) (th)), (fg, aI cI (52200) (G)), (le, aI cI (190) (L1)), (sg, aI cI (90) (S1)), (tp, aI cI (1300) (T1)), (bl, aI cI (1300) (B1))]) ⟨hx, hb, hml, hown, hts⟩ (c_place l D cI cJ cE cF cR (b) (j) (by omega) (by omega)) (va_cwS 2 hts gX11_clearCell_X11_place rfl rfl rfl (by decide +kernel) ⟨Nat.le_of_ble_eq_true rfl, Nat.le_of_ble_eq_true rfl⟩) hN hK hP hD hS hA [] [0, 1, 2, 3, 4, 5] rfl rfl (by decide) (by decide) (by decide) rfl hl.1 (Nat.le_of_ble_eq_true rfl) dX11_clearCell_54 ⟨by decide, by decide⟩ (fun z54 w1 H locs hz54 hp hP hD hS => ?_)
        obtain ⟨hw9, hx0⟩ := hp
        subst hw9
        subst hx0
        have hP := hP.sub (ws' := [(mo, mo_ fg le sg tp bl pr rs (((nn : Nat) : Int)) (dn) (sv) (rk) (tn) (ms) (th)), (fg, aI cI (52200) (G)), (le, aI cI (190) (L1)), (sg, aI cI (90) (S1)), (tp, aI cI (1300) (T1)), (bl, aI cI (1300) (B1))]) [0, 1, 2, 3, 4, 5] rfl
        have hD := hD.sub (ws' := [(mo, mo_ fg le sg tp bl pr rs (((nn : Nat) : Int)) (dn) (sv) (rk) (tn) (ms) (th)), (fg, aI cI (52200) (G)), (le, aI cI (190) (L1)), (sg, aI cI (90) (S1)), (tp, aI cI (1300) (T1)), (bl, aI cI (1300) (B1))]) [0, 1, 2, 3, 4, 5] (by decide) rfl
        refine zr_iadd hx hb dX11_clearCell_57 ?_
        refine zr_eqi (((42 + (7 * b + j) : Nat) : Int)) (by omega) ?_
        refine lv_istore (lv' := [(6, .int (iZ (((42 + (7 * b + j) : Nat) : Int)))), (5, .int (iZ (((j : Nat) : Int)))), (0, .ref (mo)), (1, .int (iZ (((a : Nat) : Int)))), (2, .int (iZ (((b : Nat) : Int)))), (3, .int (iZ (((c9 : Nat) : Int)))), (4, .int (iZ (((42 + (7 * a + c9) : Nat) : Int))))]) hx hb dX11_clearCell_58 hl (by decide) rfl (fun ls hl => ?_)
        refine lv_aload_n hx hb dX11_clearCell_60 rfl (lv_at hl 2 rfl) ?_
        refine va_get (D := D) (ci := 11) (v := .ref (sg)) (C := RX11) (T := TX11) (N := 14) hx hb hts hin11 hown hK hP 0 rfl rfl 2 (by decide) q_f_RX11_17_LimbSolverModel_sign_I (fun _ h9 => h9) rfl dX11_clearCell_61 ?_
        refine lv_iload hx hb dX11_clearCell_64 (lv_at hl 0 rfl) ?_
        refine zr_iald hx hb hK hP 3 0 rfl rfl (42 + (7 * b + j)) (by omega) (by omega) (by omega) dX11_clearCell_66 ?_
        refine zr_eqi ((M b j).num.sign) (hxb).1 ?_
        refine zr_if_eq hx hb 113 ⟨by rcases md_sg (x := M b j) with q | q | q <;> rw [q] <;> decide, by rcases md_sg (x := M b j) with q | q | q <;> rw [q] <;> decide⟩ dX11_clearCell_67 (by decide) (fun h_67 => ?_) (fun h_67 => ?_)
        · refine lv_iinc (v := iZ (((j + 1 : Nat) : Int))) (lv' := [(5, .int (iZ (((j + 1 : Nat) : Int)))), (6, .int (iZ (((42 + (7 * b + j) : Nat) : Int)))), (0, .ref (mo)), (1, .int (iZ (((a : Nat) : Int)))), (2, .int (iZ (((b : Nat) : Int)))), (3, .int (iZ (((c9 : Nat) : Int)))), (4, .int (iZ (((42 + (7 * a + c9) : Nat) : Int))))]) hx hb dX11_clearCell_113 hl (k := 1) rfl (by rw [show ((j + 1 : Nat) : Int) = ((j : Nat) : Int) + 1 by omega]; exact iZ_add _ _) (by decide) rfl (fun ls hl => ?_)
          refine lv_goto (tgt := 40) hx hb dX11_clearCell_116 (by decide) ?_
          exact ih (j + 1) G L1 S1 T1 B1 H locs ls (by omega) hke (by rw [pe_clk_s _ _ _ _ _ (md_sg0.mp h_67)]; exact hMj) h2f hP hD hS (lv_sub hl [0, 2, 3, 4, 5, 6] rfl)
        · refine lv_aload_n hx hb dX11_clearCell_70 rfl (lv_at hl 2 rfl) ?_
          refine lv_bipush (v := iZ 87) hx hb dX11_clearCell_71 (by decide) ?_
          refine zr_eqi (((87 : Nat) : Int)) (by rfl) ?_
          refine lv_bipush (v := iZ 86) hx hb dX11_clearCell_73 (by decide) ?_
          refine zr_eqi (((86 : Nat) : Int)) (by rfl) ?_
          refine lv_iload hx hb dX11_clearCell_75 (lv_at hl 0 rfl) ?_
          refine zc_Vv (As := [.int (iZ (((87 : Nat) : Int))), .int (iZ (((86 : Nat) : Int))), .int (iZ (((42 + (7 * b + j) : Nat) : Int)))]) (rest := []) (wr := []) ⟨hx, hb, hml, hown, hts⟩ (c_mproduct l D cI cJ cE cF cR mo fg le sg tp bl pr rs ((nn : Nat) : Int) dn sv rk tn ms th 87 86 (42 + (7 * b + j)) 360 180 G L1 S1 T1 B1 (M a c9 / M b c9) (M b j) (by decide) (by decide) (by omega) h2f hxb hQb.1 hQb.2 (hxb.b (by omega)).1 (hxb.b (by omega)).2 (by decide)) (cwV 3 hts gX11_clearCell_X11_product rfl rfl rfl (by decide +kernel) ⟨Nat.le_of_ble_eq_true rfl, Nat.le_of_ble_eq_true rfl⟩) hN hK hP hD hS hA [0, 1, 2, 3, 4, 5] [] rfl rfl (by decide) (by decide) (by decide) (q0 := 0) (ci := 11) rfl rfl rfl rfl hl.1 (Nat.le_of_ble_eq_true rfl) dX11_clearCell_77 ⟨by decide, by decide⟩ (fun w1 H locs hp hP hD hS => ?_)
          obtain ⟨F2, L2, S2, T2, B2, hw9, hk2, hf2⟩ := hp
          subst hw9
          have hP := hP.sub (ws' := [(mo, mo_ fg le sg tp bl pr rs (((nn : Nat) : Int)) (dn) (sv) (rk) (tn) (ms) (th)), (fg, aI cI (52200) (F2)), (le, aI cI (190) (L2)), (sg, aI cI (90) (S2)), (tp, aI cI (1300) (T2)), (bl, aI cI (1300) (B2))]) [0, 1, 2, 3, 4, 5] rfl
          have hD := hD.sub (ws' := [(mo, mo_ fg le sg tp bl pr rs (((nn : Nat) : Int)) (dn) (sv) (rk) (tn) (ms) (th)), (fg, aI cI (52200) (F2)), (le, aI cI (190) (L2)), (sg, aI cI (90) (S2)), (tp, aI cI (1300) (T2)), (bl, aI cI (1300) (B2))]) [0, 1, 2, 3, 4, 5] (by decide) rfl
          refine lv_aload_n hx hb dX11_clearCell_80 rfl (lv_at hl 2 rfl) ?_
          refine lv_bipush (v := iZ 88) hx hb dX11_clearCell_81 (by decide) ?_
          refine zr_eqi (((88 : Nat) : Int)) (by rfl) ?_
          refine lv_bipush (v := iZ 42) hx hb dX11_clearCell_83 (by decide) ?_
          refine lv_iload_n hx hb dX11_clearCell_85 rfl (lv_at hl 3 rfl) ?_
          refine lv_iload hx hb dX11_clearCell_86 (lv_at hl 1 rfl) ?_
          refine zc_Si (As := [.int (iZ (((a : Nat) : Int))), .int (iZ (((j : Nat) : Int)))]) (rest := [.int (iZ (42)), .int (iZ (((88 : Nat) : Int))), .ref (mo)]) (wr := [(mo, mo_ fg le sg tp bl pr rs (((nn : Nat) : Int)) (dn) (sv) (rk) (tn) (ms) (th)), (fg, aI cI (52200) (F2)), (le, aI cI (190) (L2)), (sg, aI cI (90) (S2)), (tp, aI cI (1300) (T2)), (bl, aI cI (1300) (B2))]) ⟨hx, hb, hml, hown, hts⟩ (c_place l D cI cJ cE cF cR (a) (j) (by omega) (by omega)) (va_cwS 2 hts gX11_clearCell_X11_place rfl rfl rfl (by decide +kernel) ⟨Nat.le_of_ble_eq_true rfl, Nat.le_of_ble_eq_true rfl⟩) hN hK hP hD hS hA [] [0, 1, 2, 3, 4, 5] rfl rfl (by decide) (by decide) (by decide) rfl hl.1 (Nat.le_of_ble_eq_true rfl) dX11_clearCell_88 ⟨by decide, by decide⟩ (fun z88 w1 H locs hz88 hp hP hD hS => ?_)
          obtain ⟨hw9, hx0⟩ := hp
          subst hw9
          subst hx0
          have hP := hP.sub (ws' := [(mo, mo_ fg le sg tp bl pr rs (((nn : Nat) : Int)) (dn) (sv) (rk) (tn) (ms) (th)), (fg, aI cI (52200) (F2)), (le, aI cI (190) (L2)), (sg, aI cI (90) (S2)), (tp, aI cI (1300) (T2)), (bl, aI cI (1300) (B2))]) [0, 1, 2, 3, 4, 5] rfl
          have hD := hD.sub (ws' := [(mo, mo_ fg le sg tp bl pr rs (((nn : Nat) : Int)) (dn) (sv) (rk) (tn) (ms) (th)), (fg, aI cI (52200) (F2)), (le, aI cI (190) (L2)), (sg, aI cI (90) (S2)), (tp, aI cI (1300) (T2)), (bl, aI cI (1300) (B2))]) [0, 1, 2, 3, 4, 5] (by decide) rfl
          refine zr_iadd hx hb dX11_clearCell_91 ?_
          refine zr_eqi (((42 + (7 * a + j) : Nat) : Int)) (by omega) ?_
          refine lv_bipush (v := iZ 87) hx hb dX11_clearCell_92 (by decide) ?_
          refine zr_eqi (((87 : Nat) : Int)) (by rfl) ?_
          refine lv_iconst (v := iZ (-1)) hx hb dX11_clearCell_94 rfl ?_
          refine zc_Vv (As := [.int (iZ (((88 : Nat) : Int))), .int (iZ (((42 + (7 * a + j) : Nat) : Int))), .int (iZ (((87 : Nat) : Int))), .int (iZ ((-1)))]) (rest := []) (wr := []) ⟨hx, hb, hml, hown, hts⟩ (c_msum l D cI cJ cE cF cR mo fg le sg tp bl pr rs ((nn : Nat) : Int) dn sv rk tn ms th 88 (42 + (7 * a + j)) 87 180 540 F2 L2 S2 T2 B2 (M a j) (M a c9 / M b c9 * M b j) (by decide) (by omega) (by decide) ((hk2 _ (by omega) (by omega)).f hxa) hf2 (hxa.b (by omega)).1 (hxa.b (by omega)).2 hPb.1 hPb.2 (-1) (Or.inr rfl) (by decide)) (cwV 4 hts gX11_clearCell_X11_sum rfl rfl rfl (by decide +kernel) ⟨Nat.le_of_ble_eq_true rfl, Nat.le_of_ble_eq_true rfl⟩) hN hK hP hD hS hA [0, 1, 2, 3, 4, 5] [] rfl rfl (by decide) (by decide) (by decide) (q0 := 0) (ci := 11) rfl rfl rfl rfl hl.1 (Nat.le_of_ble_eq_true rfl) dX11_clearCell_95 ⟨by decide, by decide⟩ (fun w1 H locs hp hP hD hS => ?_)
          obtain ⟨F3, L3, S3, T3, B3, hw9, hk3, hf3⟩ := hp
          subst hw9
          have hP := hP.sub (ws' := [(mo, mo_ fg le sg tp bl pr rs (((nn : Nat) : Int)) (dn) (sv) (rk) (tn) (ms) (th)), (fg, aI cI (52200) (F3)), (le, aI cI (190) (L3)), (sg, aI cI (90) (S3)), (tp, aI cI (1300) (T3)), (bl, aI cI (1300) (B3))]) [0, 1, 2, 3, 4, 5] rfl
          have hD := hD.sub (ws' := [(mo, mo_ fg le sg tp bl pr rs (((nn : Nat) : Int)) (dn) (sv) (rk) (tn) (ms) (th)), (fg, aI cI (52200) (F3)), (le, aI cI (190) (L3)), (sg, aI cI (90) (S3)), (tp, aI cI (1300) (T3)), (bl, aI cI (1300) (B3))]) [0, 1, 2, 3, 4, 5] (by decide) rfl
          refine lv_aload_n hx hb dX11_clearCell_98 rfl (lv_at hl 2 rfl) ?_
          refine lv_bipush (v := iZ 42) hx hb dX11_clearCell_99 (by decide) ?_
          refine lv_iload_n hx hb dX11_clearCell_101 rfl (lv_at hl 3 rfl) ?_
          refine lv_iload hx hb dX11_clearCell_102 (lv_at hl 1 rfl) ?_
          refine zc_Si (As := [.int (iZ (((a : Nat) : Int))), .int (iZ (((j : Nat) : Int)))]) (rest := [.int (iZ (42)), .ref (mo)]) (wr := [(mo, mo_ fg le sg tp bl pr rs (((nn : Nat) : Int)) (dn) (sv) (rk) (tn) (ms) (th)), (fg, aI cI (52200) (F3)), (le, aI cI (190) (L3)), (sg, aI cI (90) (S3)), (tp, aI cI (1300) (T3)), (bl, aI cI (1300) (B3))]) ⟨hx, hb, hml, hown, hts⟩ (c_place l D cI cJ cE cF cR (a) (j) (by omega) (by omega)) (va_cwS 2 hts gX11_clearCell_X11_place rfl rfl rfl (by decide +kernel) ⟨Nat.le_of_ble_eq_true rfl, Nat.le_of_ble_eq_true rfl⟩) hN hK hP hD hS hA [] [0, 1, 2, 3, 4, 5] rfl rfl (by decide) (by decide) (by decide) rfl hl.1 (Nat.le_of_ble_eq_true rfl) dX11_clearCell_104 ⟨by decide, by decide⟩ (fun z104 w1 H locs hz104 hp hP hD hS => ?_)
          obtain ⟨hw9, hx0⟩ := hp
          subst hw9
          subst hx0
          have hP := hP.sub (ws' := [(mo, mo_ fg le sg tp bl pr rs (((nn : Nat) : Int)) (dn) (sv) (rk) (tn) (ms) (th)), (fg, aI cI (52200) (F3)), (le, aI cI (190) (L3)), (sg, aI cI (90) (S3)), (tp, aI cI (1300) (T3)), (bl, aI cI (1300) (B3))]) [0, 1, 2, 3, 4, 5] rfl
          have hD := hD.sub (ws' := [(mo, mo_ fg le sg tp bl pr rs (((nn : Nat) : Int)) (dn) (sv) (rk) (tn) (ms) (th)), (fg, aI cI (52200) (F3)), (le, aI cI (190) (L3)), (sg, aI cI (90) (S3)), (tp, aI cI (1300) (T3)), (bl, aI cI (1300) (B3))]) [0, 1, 2, 3, 4, 5] (by decide) rfl
          refine zr_iadd hx hb dX11_clearCell_107 ?_
          refine zr_eqi (((42 + (7 * a + j) : Nat) : Int)) (by omega) ?_
          refine lv_bipush (v := iZ 88) hx hb dX11_clearCell_108 (by decide) ?_
          refine zr_eqi (((88 : Nat) : Int)) (by rfl) ?_
          refine zc_Vv (As := [.int (iZ (((42 + (7 * a + j) : Nat) : Int))), .int (iZ (((88 : Nat) : Int)))]) (rest := []) (wr := [(tp, aI cI (1300) (T3)), (bl, aI cI (1300) (B3))]) ⟨hx, hb, hml, hown, hts⟩ (c_massign l D cI cJ cE cF cR mo fg le sg tp bl pr rs ((nn : Nat) : Int) dn sv rk tn ms th (42 + (7 * a + j)) (88) 180 F3 L3 S3 (M a j - M a c9 / M b c9 * M b j) (by omega) (by decide) (by omega) (by rw [← pe_m1]; exact hf3) (hnew j (by omega)).1 (hnew j (by omega)).2 ((mdC_b _).1) ((mdC_b _).1)) (cwV 2 hts gX11_clearCell_X11_assign rfl rfl rfl (by decide +kernel) ⟨Nat.le_of_ble_eq_true rfl, Nat.le_of_ble_eq_true rfl⟩) hN hK hP hD hS hA [0, 1, 2, 3] [4, 5] rfl rfl (by decide) (by decide) (by decide) (q0 := 0) (ci := 11) rfl rfl rfl rfl hl.1 (Nat.le_of_ble_eq_true rfl) dX11_clearCell_110 ⟨by decide, by decide⟩ (fun w1 H locs hp hP hD hS => ?_)
          obtain ⟨F4, L4, S4, hw9, hk4, hf4⟩ := hp
          subst hw9
          have hP := hP.sub (ws' := [(mo, mo_ fg le sg tp bl pr rs (((nn : Nat) : Int)) (dn) (sv) (rk) (tn) (ms) (th)), (fg, aI cI (52200) (F4)), (le, aI cI (190) (L4)), (sg, aI cI (90) (S4)), (tp, aI cI (1300) (T3)), (bl, aI cI (1300) (B3))]) [2, 3, 4, 5, 0, 1] rfl
          have hD := hD.sub (ws' := [(mo, mo_ fg le sg tp bl pr rs (((nn : Nat) : Int)) (dn) (sv) (rk) (tn) (ms) (th)), (fg, aI cI (52200) (F4)), (le, aI cI (190) (L4)), (sg, aI cI (90) (S4)), (tp, aI cI (1300) (T3)), (bl, aI cI (1300) (B3))]) [2, 3, 4, 5, 0, 1] (by decide) rfl
          refine lv_iinc (v := iZ (((j + 1 : Nat) : Int))) (lv' := [(5, .int (iZ (((j + 1 : Nat) : Int)))), (6, .int (iZ (((42 + (7 * b + j) : Nat) : Int)))), (0, .ref (mo)), (1, .int (iZ (((a : Nat) : Int)))), (2, .int (iZ (((b : Nat) : Int)))), (3, .int (iZ (((c9 : Nat) : Int)))), (4, .int (iZ (((42 + (7 * a + c9) : Nat) : Int))))]) hx hb dX11_clearCell_113 hl (k := 1) rfl (by rw [show ((j + 1 : Nat) : Int) = ((j : Nat) : Int) + 1 by omega]; exact iZ_add _ _) (by decide) rfl (fun ls hl => ?_)
          refine lv_goto (tgt := 40) hx hb dX11_clearCell_116 (by decide) ?_
          exact ih (j + 1) F4 L4 S4 T3 B3 H locs ls (by omega) (fun g h1 h2 => (((hke g h1 h2).trans (hk2 g h1 (by omega))).trans (hk3 g h1 (by omega))).trans (hk4 g h1 (by omega))) (md_clk hMj (by omega) ha (fun g h1 h2 h3 => ((hk2 g h1 (by omega)).trans (hk3 g h1 (by omega))).trans (hk4 g h1 h2)) hf4) ((((hk2 86 (by decide) (by decide)).trans (hk3 86 (by decide) (by decide))).trans (hk4 86 (by decide) (by omega))).f h2f) hP hD hS (lv_sub hl [0, 2, 3, 4, 5, 6] rfl)
  refine lv_bipush (v := iZ 42) hx hb dX11_clearCell_0 (by decide) ?_
  refine lv_iload_n hx hb dX11_clearCell_2 rfl (lv_at hl 1 rfl) ?_
  refine lv_iload_n hx hb dX11_clearCell_3 rfl (lv_at hl 3 rfl) ?_
  refine zc_Si (As := [.int (iZ (((a : Nat) : Int))), .int (iZ (((c9 : Nat) : Int)))]) (rest := [.int (iZ (42))]) (wr := [(mo, mo_ fg le sg tp bl pr rs (((nn : Nat) : Int)) (dn) (sv) (rk) (tn) (ms) (th)), (fg, aI cI (52200) (F)), (le, aI cI (190) (Ln)), (sg, aI cI (90) (Sg)), (tp, aI cI (1300) (T0)), (bl, aI cI (1300) (B0))]) ⟨hx, hb, hml, hown, hts⟩ (c_place l D cI cJ cE cF cR (a) (c9) (by omega) (by omega)) (va_cwS 2 hts gX11_clearCell_X11_place rfl rfl rfl (by decide +kernel) ⟨Nat.le_of_ble_eq_true rfl, Nat.le_of_ble_eq_true rfl⟩) hN hK hP hD hS hA [] [0, 1, 2, 3, 4, 5] rfl rfl (by decide) (by decide) (by decide) rfl hl.1 (Nat.le_of_ble_eq_true rfl) dX11_clearCell_4 ⟨by decide, by decide⟩ (fun z4 w1 H locs hz4 hp hP hD hS => ?_)
  obtain ⟨hw9, hx0⟩ := hp
  subst hw9
  subst hx0
  have hP := hP.sub (ws' := [(mo, mo_ fg le sg tp bl pr rs (((nn : Nat) : Int)) (dn) (sv) (rk) (tn) (ms) (th)), (fg, aI cI (52200) (F)), (le, aI cI (190) (Ln)), (sg, aI cI (90) (Sg)), (tp, aI cI (1300) (T0)), (bl, aI cI (1300) (B0))]) [0, 1, 2, 3, 4, 5] rfl
  have hD := hD.sub (ws' := [(mo, mo_ fg le sg tp bl pr rs (((nn : Nat) : Int)) (dn) (sv) (rk) (tn) (ms) (th)), (fg, aI cI (52200) (F)), (le, aI cI (190) (Ln)), (sg, aI cI (90) (Sg)), (tp, aI cI (1300) (T0)), (bl, aI cI (1300) (B0))]) [0, 1, 2, 3, 4, 5] (by decide) rfl
  refine zr_iadd hx hb dX11_clearCell_7 ?_
  refine zr_eqi (((42 + (7 * a + c9) : Nat) : Int)) (by omega) ?_
  refine lv_istore (lv' := [(4, .int (iZ (((42 + (7 * a + c9) : Nat) : Int)))), (0, .ref (mo)), (1, .int (iZ (((a : Nat) : Int)))), (2, .int (iZ (((b : Nat) : Int)))), (3, .int (iZ (((c9 : Nat) : Int))))]) hx hb dX11_clearCell_8 hl (by decide) rfl (fun ls hl => ?_)
  refine lv_aload_n hx hb dX11_clearCell_10 rfl (lv_at hl 1 rfl) ?_
  refine va_get (D := D) (ci := 11) (v := .ref (sg)) (C := RX11) (T := TX11) (N := 14) hx hb hts hin11 hown hK hP 0 rfl rfl 2 (by decide) q_f_RX11_17_LimbSolverModel_sign_I (fun _ h9 => h9) rfl dX11_clearCell_11 ?_
  refine lv_iload hx hb dX11_clearCell_14 (lv_at hl 0 rfl) ?_
  refine zr_iald hx hb hK hP 3 0 rfl rfl (42 + (7 * a + c9)) (by omega) (by omega) (by omega) dX11_clearCell_16 ?_
  refine zr_eqi ((M a c9).num.sign) (hxa).1 ?_
  refine zr_if_ne hx hb 21 ⟨by rcases md_sg (x := M a c9) with q | q | q <;> rw [q] <;> decide, by rcases md_sg (x := M a c9) with q | q | q <;> rw [q] <;> decide⟩ dX11_clearCell_17 (by decide) (fun h_17 => ?_) (fun h_17 => ?_)
  · refine lv_aload_n hx hb dX11_clearCell_21 rfl (lv_at hl 1 rfl) ?_
    refine lv_bipush (v := iZ 86) hx hb dX11_clearCell_22 (by decide) ?_
    refine zr_eqi (((86 : Nat) : Int)) (by rfl) ?_
    refine lv_iload hx hb dX11_clearCell_24 (lv_at hl 0 rfl) ?_
    refine lv_bipush (v := iZ 42) hx hb dX11_clearCell_26 (by decide) ?_
    refine lv_iload_n hx hb dX11_clearCell_28 rfl (lv_at hl 3 rfl) ?_
    refine lv_iload_n hx hb dX11_clearCell_29 rfl (lv_at hl 4 rfl) ?_
    refine zc_Si (As := [.int (iZ (((b : Nat) : Int))), .int (iZ (((c9 : Nat) : Int)))]) (rest := [.int (iZ (42)), .int (iZ (((42 + (7 * a + c9) : Nat) : Int))), .int (iZ (((86 : Nat) : Int))), .ref (mo)]) (wr := [(mo, mo_ fg le sg tp bl pr rs (((nn : Nat) : Int)) (dn) (sv) (rk) (tn) (ms) (th)), (fg, aI cI (52200) (F)), (le, aI cI (190) (Ln)), (sg, aI cI (90) (Sg)), (tp, aI cI (1300) (T0)), (bl, aI cI (1300) (B0))]) ⟨hx, hb, hml, hown, hts⟩ (c_place l D cI cJ cE cF cR (b) (c9) (by omega) (by omega)) (va_cwS 2 hts gX11_clearCell_X11_place rfl rfl rfl (by decide +kernel) ⟨Nat.le_of_ble_eq_true rfl, Nat.le_of_ble_eq_true rfl⟩) hN hK hP hD hS hA [] [0, 1, 2, 3, 4, 5] rfl rfl (by decide) (by decide) (by decide) rfl hl.1 (Nat.le_of_ble_eq_true rfl) dX11_clearCell_30 ⟨by decide, by decide⟩ (fun z30 w1 H locs hz30 hp hP hD hS => ?_)
    obtain ⟨hw9, hx0⟩ := hp
    subst hw9
    subst hx0
    have hP := hP.sub (ws' := [(mo, mo_ fg le sg tp bl pr rs (((nn : Nat) : Int)) (dn) (sv) (rk) (tn) (ms) (th)), (fg, aI cI (52200) (F)), (le, aI cI (190) (Ln)), (sg, aI cI (90) (Sg)), (tp, aI cI (1300) (T0)), (bl, aI cI (1300) (B0))]) [0, 1, 2, 3, 4, 5] rfl
    have hD := hD.sub (ws' := [(mo, mo_ fg le sg tp bl pr rs (((nn : Nat) : Int)) (dn) (sv) (rk) (tn) (ms) (th)), (fg, aI cI (52200) (F)), (le, aI cI (190) (Ln)), (sg, aI cI (90) (Sg)), (tp, aI cI (1300) (T0)), (bl, aI cI (1300) (B0))]) [0, 1, 2, 3, 4, 5] (by decide) rfl
    refine zr_iadd hx hb dX11_clearCell_33 ?_
    refine zr_eqi (((42 + (7 * b + c9) : Nat) : Int)) (by omega) ?_
    refine zc_Vv (As := [.int (iZ (((86 : Nat) : Int))), .int (iZ (((42 + (7 * a + c9) : Nat) : Int))), .int (iZ (((42 + (7 * b + c9) : Nat) : Int)))]) (rest := []) (wr := []) ⟨hx, hb, hml, hown, hts⟩ (c_mquotient l D cI cJ cE cF cR mo fg le sg tp bl pr rs ((nn : Nat) : Int) dn sv rk tn ms th 86 (42 + (7 * a + c9)) (42 + (7 * b + c9)) 180 180 F Ln Sg T0 B0 (M a c9) (M b c9) (by decide) (by omega) (by omega) hxa hxb (hxa.b (by omega)).1 (hxa.b (by omega)).2 (hxb.b (by omega)).1 (hxb.b (by omega)).2 (by decide) hp0) (cwV 3 hts gX11_clearCell_X11_quotient rfl rfl rfl (by decide +kernel) ⟨Nat.le_of_ble_eq_true rfl, Nat.le_of_ble_eq_true rfl⟩) hN hK hP hD hS hA [0, 1, 2, 3, 4, 5] [] rfl rfl (by decide) (by decide) (by decide) (q0 := 0) (ci := 11) rfl rfl rfl rfl hl.1 (Nat.le_of_ble_eq_true rfl) dX11_clearCell_34 ⟨by decide, by decide⟩ (fun w1 H locs hp hP hD hS => ?_)
    obtain ⟨F2, L2, S2, T2, B2, hw9, hk2, hf2⟩ := hp
    subst hw9
    have hP := hP.sub (ws' := [(mo, mo_ fg le sg tp bl pr rs (((nn : Nat) : Int)) (dn) (sv) (rk) (tn) (ms) (th)), (fg, aI cI (52200) (F2)), (le, aI cI (190) (L2)), (sg, aI cI (90) (S2)), (tp, aI cI (1300) (T2)), (bl, aI cI (1300) (B2))]) [0, 1, 2, 3, 4, 5] rfl
    have hD := hD.sub (ws' := [(mo, mo_ fg le sg tp bl pr rs (((nn : Nat) : Int)) (dn) (sv) (rk) (tn) (ms) (th)), (fg, aI cI (52200) (F2)), (le, aI cI (190) (L2)), (sg, aI cI (90) (S2)), (tp, aI cI (1300) (T2)), (bl, aI cI (1300) (B2))]) [0, 1, 2, 3, 4, 5] (by decide) rfl
    refine lv_iconst (v := iZ 0) hx hb dX11_clearCell_37 rfl ?_
    refine lv_istore (lv' := [(5, .int (iZ (0))), (4, .int (iZ (((42 + (7 * a + c9) : Nat) : Int)))), (0, .ref (mo)), (1, .int (iZ (((a : Nat) : Int)))), (2, .int (iZ (((b : Nat) : Int)))), (3, .int (iZ (((c9 : Nat) : Int))))]) hx hb dX11_clearCell_38 hl (by decide) rfl (fun ls hl => ?_)
    exact lp (nn + 1) 0 F2 L2 S2 T2 B2 H locs ls (by omega) (fun g h1 h2 => hk2 g h1 (by omega)) (by rw [pe_clk_0]; exact hM.keep hk2 (by decide) (by decide)) hf2 hP hD hS (lv_sub hl [0, 2, 3, 4, 5, 1] rfl)
  · exact zr_vret hQ hx hb hr hlk dX11_clearCell_20 hK hP hD hS (by omega) (by omega) (⟨F, Ln, Sg, T0, B0, rfl, fun g _ _ => md_ef.refl F Ln Sg g, by rw [pe_clk_z _ _ _ _ _ (md_sg0.mp (by omega))]; exact hM⟩)
