
theorem pm_c0 (q : Int) (R : Nat → Nat → Int) (c i j : Nat) : pm_clk q (c + 1) c R c i j = R i j := by
  unfold pm_clk pm_cl
  split
  · rw [if_neg (by omega)]
  · rfl
theorem pm_c1 (q : Int) (R : Nat → Nat → Int) {n a c i j : Nat} (hj : j < n) : pm_clk q a n R c i j = pm_clk q (a + 1) c R c i j := by
  unfold pm_clk
  by_cases h : i < a ∨ (i = a ∧ j < n)
  · rw [if_pos h, if_pos (by omega)]
  · rw [if_neg h]
    split
    · unfold pm_cl; rw [if_neg (by omega)]
    · rfl
theorem pm_c2 (q : Int) (R : Nat → Nat → Int) {n c k i j : Nat} (hi : i < n) : pm_clk q n k R c i j = pm_cl q R c i j := if_pos (Or.inl hi)
theorem pm_cr (q : Int) (R : Nat → Nat → Int) (a k c j : Nat) : pm_clk q a k R c c j = R c j := by
  unfold pm_clk pm_cl
  split
  · rw [if_neg (by omega)]
  · rfl
theorem pm_ca (q : Int) (R : Nat → Nat → Int) (a k c j : Nat) (h : k ≤ j) : pm_clk q a k R c a j = R a j := if_neg (by omega)
theorem pm_ee {q m : Int} (x y z : Int) (h : z = x + (q - m) * y) : z % q = (x - m * y) % q := by
  rw [h]
  exact pm_eq ⟨y, by grind⟩
theorem pm_e_b (V : Nat → Rat) {q : Int} (f : Nat) (h : 0 < q) : 0 ≤ pm_e V q f ∧ pm_e V q f < q := ⟨Int.emod_nonneg _ (by omega), Int.emod_lt_of_pos _ h⟩

theorem pm_cc (a c : Nat) (R : Nat → Nat → Int) : R a c = pm_sw R a c c c := by
  unfold pm_sw
  by_cases w : c = a
  · rw [if_pos w, w]
  · rw [if_neg w, if_pos rfl]
set_option maxHeartbeats 4000000 in
set_option maxRecDepth 100000 in
/-- Model.modulo -/
theorem c_mmodulo (l : Launch) (D : va_G) (cI cJ cE cF cR : ClassId) (mo fg le sg tp bl pr rs nn : Nat) (dn sv rk tn ms th : Int) (q9 : Int) (F Ln Sg RS : Nat → Int) (V : Nat → Rat) (hq0 : iR q9) (h1n : 1 ≤ nn) (hn : nn ≤ 6) (hAA : md_A F Ln Sg 0 V) : Ci l D (zty cI cJ cE cF cR) yX11_modulo wsX11_modulo (zRm 2 80) 0 0 [.ref (mo), .int (iZ (q9))] [(mo, mo_ fg le sg tp bl pr rs (((nn : Nat) : Int)) (dn) (sv) (rk) (tn) (ms) (th)), (fg, aI cI (52200) (F)), (le, aI cI (190) (Ln)), (sg, aI cI (90) (Sg)), (rs, aJ cJ (36) (RS))] (fun r w1 => ∃ Z : Nat → Int, w1 = [(mo, mo_ fg le sg tp bl pr rs (((nn : Nat) : Int)) (dn) (sv) (rk) (tn) (ms) (0)), (fg, aI cI (52200) (F)), (le, aI cI (190) (Ln)), (sg, aI cI (90) (Sg)), (rs, aJ cJ (36) (Z))] ∧ pm_rel V nn q9 r) := by
  unfold Ci
  refine zs (Qc := zQi D _ _) (cc := cX11_modulo) (maxL := 14) (ret := (some .int)) (by decide) rfl (Nat.le_of_ble_eq_true rfl) ?_
  intro zp ze s zm below meth zc ls A args Q hQ hx hb hr hts hown hlk hml hnm hN hA hK hP hD hS hl
  have q_f_RX11_26_LimbSolverModel_n_I := hts (.fieldLink RX11 26 "LimbSolverModel" "n" "I") (by decide +kernel)
  have hin11 : ∀ w ∈ wsX110, w ∈ wsX11_modulo := by decide +kernel
  have q_f_RX11_33_LimbSolverModel_residue_J := hts (.fieldLink RX11 33 "LimbSolverModel" "residue" "[J") (by decide +kernel)
  have q_f_RX11_17_LimbSolverModel_sign_I := hts (.fieldLink RX11 17 "LimbSolverModel" "sign" "[I") (by decide +kernel)
  have q_f_RX11_40_LimbSolverModel_thrown_I := hts (.fieldLink RX11 40 "LimbSolverModel" "thrown" "I") (by decide +kernel)
  have hl : lv_has ls 14 [(0, .ref (mo)), (1, .int (iZ (q9)))] := hl
  by_cases hpr : pm_prime q9
  · have hq1 := hpr.1
    have hq2 := hpr.2.1
    obtain ⟨W0, hW0⟩ : ∃ W0 : Int, W0 = pm_go q9 nn nn 0 (fun i j => pm_e V q9 (7 * i + j)) 1 := ⟨_, rfl⟩
    have clp : (∀ i j : Nat, i < nn → j < nn → ((V (7 * i + j)).den : Int) % q9 ≠ 0) → ∀ (t : Nat) (c9 : Nat) (al : Int) (Z1 : Nat → Int) (R : Nat → Nat → Int) (H : Heap) (locs : List Loc) (ls : Array Slot), (c9 + t = nn) → (pm_A nn q9 Z1 R) → (0 ≤ al ∧ al ≤ q9) → (c9 = 0 ∨ al < q9) → (pm_go q9 nn t c9 R al = W0) →  va_P D vwCl [(mo, mo_ fg le sg tp bl pr rs (((nn : Nat) : Int)) (dn) (sv) (rk) (tn) (ms) (0)), (fg, aI cI (52200) (F)), (le, aI cI (190) (Ln)), (sg, aI cI (90) (Sg)), (rs, aJ cJ (36) (Z1))] H → va_D A [(mo, mo_ fg le sg tp bl pr rs (((nn : Nat) : Int)) (dn) (sv) (rk) (tn) (ms) (0)), (fg, aI cI (52200) (F)), (le, aI cI (190) (Ln)), (sg, aI cI (90) (Sg)), (rs, aJ cJ (36) (Z1))] → va_S A s.heap H locs → lv_has ls 14 [(4, .int (iZ (((c9 : Nat) : Int)))), (2, .long (lZ (al))), (0, .ref (mo)), (1, .int (iZ (q9)))] → W zp l ze (zRm 2 80) s zm args below meth zc H locs 0 0 Q (F0 zm 138 ls []) := by
      intro hden t
      induction t with
      | zero =>
        intro c9 al Z1 R H locs ls hct hPA hal hal2 hgo hP hD hS hl
        refine lv_iload hx hb dX11_modulo_138 (lv_at hl 0 rfl) ?_
        refine lv_aload_n hx hb dX11_modulo_140 rfl (lv_at hl 2 rfl) ?_
        refine va_get (D := D) (ci := 11) (v := .int (iZ (((nn : Nat) : Int)))) (C := RX11) (T := TX11) (N := 14) hx hb hts hin11 hown hK hP 0 rfl rfl 5 (by decide) q_f_RX11_26_LimbSolverModel_n_I (fun _ h9 => h9) rfl dX11_modulo_141 ?_
        refine zr_icmp_ge hx hb 431 ⟨by omega, by omega⟩ ⟨by omega, by omega⟩ dX11_modulo_144 (by decide) (fun h_144 => ?_) (fun h_144 => ?_)
        · refine lv_lload_n hx hb dX11_modulo_431 rfl (lv_at hl 1 rfl) ?_
          refine lv_iload_n hx hb dX11_modulo_432 rfl (lv_at hl 3 rfl) ?_
          refine zr_i2l hx hb ⟨by omega, by omega⟩ dX11_modulo_433 ?_
          refine zr_lrem hx hb ⟨by omega, by omega⟩ ⟨by omega, by omega⟩ (by omega) (by omega) dX11_modulo_434 ?_
          refine zr_eql (al) (Int.emod_eq_of_lt (by omega) (by omega)) ?_
          refine zr_l2i hx hb dX11_modulo_435 ?_
          exact zr_iret hQ hx hb hr hlk dX11_modulo_436 hK hP hD hS (by omega) (by omega) ⟨by omega, by omega⟩ (⟨Z1, rfl, Or.inr (Or.inr ⟨hpr, hden, by rw [← hW0]; exact hgo⟩)⟩)
        · exfalso; omega
      | succ t ih =>
        intro c9 al Z1 R H locs ls hct hPA hal hal2 hgo hP hD hS hl
        have ihC := ih
        have j184 : ∀ (R9 : Nat) (H : Heap) (locs : List Loc) (ls : Array Slot), (pm_find R c9 c9 (nn - c9) = R9) → R9 ≤ nn → va_P D vwCl [(mo, mo_ fg le sg tp bl pr rs (((nn : Nat) : Int)) (dn) (sv) (rk) (tn) (ms) (0)), (fg, aI cI (52200) (F)), (le, aI cI (190) (Ln)), (sg, aI cI (90) (Sg)), (rs, aJ cJ (36) (Z1))] H → va_D A [(mo, mo_ fg le sg tp bl pr rs (((nn : Nat) : Int)) (dn) (sv) (rk) (tn) (ms) (0)), (fg, aI cI (52200) (F)), (le, aI cI (190) (Ln)), (sg, aI cI (90) (Sg)), (rs, aJ cJ (36) (Z1))] → va_S A s.heap H locs → lv_has ls 14 [(5, .int (iZ (((R9 : Nat) : Int)))), (4, .int (iZ (((c9 : Nat) : Int)))), (2, .long (lZ (al))), (0, .ref (mo)), (1, .int (iZ (q9)))] → W zp l ze (zRm 2 80) s zm args below meth zc H locs 0 0 Q (F0 zm 184 ls []) := by
          intro R9 H locs ls hR hRn hP hD hS hl
          have hRg := pm_find_ge R c9 (nn - c9) c9
          by_cases hlt : R9 < nn
          · have hgo2 : pm_go q9 nn t (c9 + 1) (pm_cl q9 (pm_sw R R9 c9) c9) ((if R9 = c9 then al else q9 - al) * R R9 c9 % q9) = W0 := by
              have hlt2 : pm_find R c9 c9 (nn - c9) < nn := by omega
              rw [← hgo, ← hR]
              exact (if_pos hlt2).symm
            have hpe : pm_sw R R9 c9 c9 c9 = R R9 c9 := by unfold pm_sw; by_cases w : c9 = R9; (rw [if_pos w, ← w]); rw [if_neg w, if_pos rfl]
            have j281 : ∀ (al2 : Int) (Z2 : Nat → Int) (H : Heap) (locs : List Loc) (ls : Array Slot), (pm_A nn q9 Z2 (pm_sw R R9 c9)) → (al2 = if R9 = c9 then al else q9 - al) →  va_P D vwCl [(mo, mo_ fg le sg tp bl pr rs (((nn : Nat) : Int)) (dn) (sv) (rk) (tn) (ms) (0)), (fg, aI cI (52200) (F)), (le, aI cI (190) (Ln)), (sg, aI cI (90) (Sg)), (rs, aJ cJ (36) (Z2))] H → va_D A [(mo, mo_ fg le sg tp bl pr rs (((nn : Nat) : Int)) (dn) (sv) (rk) (tn) (ms) (0)), (fg, aI cI (52200) (F)), (le, aI cI (190) (Ln)), (sg, aI cI (90) (Sg)), (rs, aJ cJ (36) (Z2))] → va_S A s.heap H locs → lv_has ls 14 [(4, .int (iZ (((c9 : Nat) : Int)))), (2, .long (lZ (al2))), (0, .ref (mo)), (1, .int (iZ (q9)))] → W zp l ze (zRm 2 80) s zm args below meth zc H locs 0 0 Q (F0 zm 281 ls []) := by
              intro al2 Z2 H locs ls hP2 hl2 hP hD hS hl
              have hpp := (hP2 c9 c9 (by omega) (by omega)).2
              rw [hpe] at hpp
              have hl3 : 0 ≤ al2 ∧ al2 ≤ q9 := by rw [hl2]; split <;> omega
              have hmm1 := pm_mul (a := al2) (b := R R9 c9) hl3.1 (by omega) hpp.1 (by omega)
              refine lv_aload_n hx hb dX11_modulo_281 rfl (lv_at hl 2 rfl) ?_
              refine va_get (D := D) (ci := 11) (v := .ref (rs)) (C := RX11) (T := TX11) (N := 14) hx hb hts hin11 hown hK hP 0 rfl rfl 13 (by decide) q_f_RX11_33_LimbSolverModel_residue_J (fun _ h9 => h9) rfl dX11_modulo_282 ?_
              refine lv_bipush (v := iZ 6) hx hb dX11_modulo_285 (by decide) ?_
              refine lv_iload hx hb dX11_modulo_287 (lv_at hl 0 rfl) ?_
              refine zr_imul hx hb dX11_modulo_289 ?_
              refine lv_iload hx hb dX11_modulo_290 (lv_at hl 0 rfl) ?_
              refine zr_iadd hx hb dX11_modulo_292 ?_
              refine zr_lald hx hb hK hP 4 1 rfl rfl (6 * c9 + c9) (by omega) (by omega) (by omega) dX11_modulo_293 ?_
              refine zr_eql (R R9 c9) (by rw [(hP2 c9 c9 (by omega) (by omega)).1]; exact hpe) ?_
              refine lv_lstore (lv' := [(6, .long (lZ (R R9 c9))), (4, .int (iZ (((c9 : Nat) : Int)))), (2, .long (lZ (al2))), (0, .ref (mo)), (1, .int (iZ (q9)))]) hx hb dX11_modulo_294 hl (by decide) rfl (fun ls hl => ?_)
              refine lv_lload_n hx hb dX11_modulo_296 rfl (lv_at hl 2 rfl) ?_
              refine lv_lload hx hb dX11_modulo_297 (lv_at hl 0 rfl) ?_
              refine zr_lmul hx hb dX11_modulo_299 ?_
              refine lv_iload_n hx hb dX11_modulo_300 rfl (lv_at hl 4 rfl) ?_
              refine zr_i2l hx hb ⟨by omega, by omega⟩ dX11_modulo_301 ?_
              refine zr_lrem hx hb ⟨by omega, by omega⟩ ⟨by omega, by omega⟩ (by omega) (by omega) dX11_modulo_302 ?_
              refine zr_topl (fun al3 hal3 => ?_)
              refine lv_lstore_n (lv' := [(2, .long (lZ (al3))), (6, .long (lZ (R R9 c9))), (4, .int (iZ (((c9 : Nat) : Int)))), (0, .ref (mo)), (1, .int (iZ (q9)))]) hx hb dX11_modulo_303 rfl hl (by decide) rfl (fun ls hl => ?_)
              refine lv_lload hx hb dX11_modulo_304 (lv_at hl 1 rfl) ?_
              refine lv_iload_n hx hb dX11_modulo_306 rfl (lv_at hl 4 rfl) ?_
              refine lv_iconst (v := iZ 2) hx hb dX11_modulo_307 rfl ?_
              refine zr_isub hx hb dX11_modulo_308 ?_
              refine zr_eqi (((q9.toNat - 2 : Nat) : Int)) (by omega) ?_
              refine lv_iload_n hx hb dX11_modulo_309 rfl (lv_at hl 4 rfl) ?_
              refine zc_Sl (As := [.long (lZ (R R9 c9)), .int (iZ (((q9.toNat - 2 : Nat) : Int))), .int (iZ (q9))]) (rest := []) (wr := [(mo, mo_ fg le sg tp bl pr rs (((nn : Nat) : Int)) (dn) (sv) (rk) (tn) (ms) (0)), (fg, aI cI (52200) (F)), (le, aI cI (190) (Ln)), (sg, aI cI (90) (Sg)), (rs, aJ cJ (36) (Z2))]) ⟨hx, hb, hml, hown, hts⟩ (c_mpower l D cI cJ cE cF cR (R R9 c9) q9 (q9.toNat - 2) hq1 hq2 ⟨by omega, by omega⟩ (by omega)) (va_cwS 3 hts gX11_modulo_X11_power rfl rfl rfl (by decide +kernel) ⟨Nat.le_of_ble_eq_true rfl, Nat.le_of_ble_eq_true rfl⟩) hN hK hP hD hS hA [] [0, 1, 2, 3, 4] rfl rfl (by decide) (by decide) (by decide) rfl hl.1 (Nat.le_of_ble_eq_true rfl) dX11_modulo_310 ⟨by decide, by decide⟩ (fun z310 w1 H locs hz310 hp hP hD hS => ?_)
              obtain ⟨hw9, hr0⟩ := hp
              subst hw9
              subst hr0
              have hP := hP.sub (ws' := [(mo, mo_ fg le sg tp bl pr rs (((nn : Nat) : Int)) (dn) (sv) (rk) (tn) (ms) (0)), (fg, aI cI (52200) (F)), (le, aI cI (190) (Ln)), (sg, aI cI (90) (Sg)), (rs, aJ cJ (36) (Z2))]) [0, 1, 2, 3, 4] rfl
              have hD := hD.sub (ws' := [(mo, mo_ fg le sg tp bl pr rs (((nn : Nat) : Int)) (dn) (sv) (rk) (tn) (ms) (0)), (fg, aI cI (52200) (F)), (le, aI cI (190) (Ln)), (sg, aI cI (90) (Sg)), (rs, aJ cJ (36) (Z2))]) [0, 1, 2, 3, 4] (by decide) rfl
              refine zr_topl (fun by9 hby => ?_)
              refine lv_lstore (lv' := [(8, .long (lZ (by9))), (2, .long (lZ (al3))), (6, .long (lZ (R R9 c9))), (4, .int (iZ (((c9 : Nat) : Int)))), (0, .ref (mo)), (1, .int (iZ (q9)))]) hx hb dX11_modulo_313 hl (by decide) rfl (fun ls hl => ?_)
              refine lv_iload hx hb dX11_modulo_315 (lv_at hl 3 rfl) ?_
              refine lv_iconst (v := iZ 1) hx hb dX11_modulo_317 rfl ?_
              refine zr_iadd hx hb dX11_modulo_318 ?_
              refine zr_eqi (((c9 + 1 : Nat) : Int)) (by omega) ?_
              refine lv_istore (lv' := [(10, .int (iZ (((c9 + 1 : Nat) : Int)))), (8, .long (lZ (by9))), (2, .long (lZ (al3))), (6, .long (lZ (R R9 c9))), (4, .int (iZ (((c9 : Nat) : Int)))), (0, .ref (mo)), (1, .int (iZ (q9)))]) hx hb dX11_modulo_319 hl (by decide) rfl (fun ls hl => ?_)
              have hby0 : 0 ≤ by9 ∧ by9 < q9 := by rw [hby]; exact ⟨Int.emod_nonneg _ (by omega), Int.emod_lt_of_pos _ (by omega)⟩
              have hb3 : 0 ≤ al3 ∧ al3 < q9 := by rw [hal3]; exact ⟨Int.emod_nonneg _ (by omega), Int.emod_lt_of_pos _ (by omega)⟩
              have hgo3 : pm_go q9 nn t c9.succ (pm_cl q9 (pm_sw R R9 c9) c9) al3 = W0 := by rw [hal3, hl2]; exact hgo2
              have ilp : ∀ (t : Nat) (i : Nat) (Z3 : Nat → Int) (H : Heap) (locs : List Loc) (ls : Array Slot), (i + t = nn) → (c9 < i) → (pm_A nn q9 Z3 (pm_clk q9 i c9 (pm_sw R R9 c9) c9)) →  va_P D vwCl [(mo, mo_ fg le sg tp bl pr rs (((nn : Nat) : Int)) (dn) (sv) (rk) (tn) (ms) (0)), (fg, aI cI (52200) (F)), (le, aI cI (190) (Ln)), (sg, aI cI (90) (Sg)), (rs, aJ cJ (36) (Z3))] H → va_D A [(mo, mo_ fg le sg tp bl pr rs (((nn : Nat) : Int)) (dn) (sv) (rk) (tn) (ms) (0)), (fg, aI cI (52200) (F)), (le, aI cI (190) (Ln)), (sg, aI cI (90) (Sg)), (rs, aJ cJ (36) (Z3))] → va_S A s.heap H locs → lv_has ls 14 [(10, .int (iZ (((i : Nat) : Int)))), (8, .long (lZ (by9))), (4, .int (iZ (((c9 : Nat) : Int)))), (2, .long (lZ (al3))), (0, .ref (mo)), (1, .int (iZ (q9)))] → W zp l ze (zRm 2 80) s zm args below meth zc H locs 0 0 Q (F0 zm 321 ls []) := by
                intro t
                induction t with
                | zero =>
                  intro i Z3 H locs ls hit hic hP3 hP hD hS hl
                  refine lv_iload hx hb dX11_modulo_321 (lv_at hl 0 rfl) ?_
                  refine lv_aload_n hx hb dX11_modulo_323 rfl (lv_at hl 4 rfl) ?_
                  refine va_get (D := D) (ci := 11) (v := .int (iZ (((nn : Nat) : Int)))) (C := RX11) (T := TX11) (N := 14) hx hb hts hin11 hown hK hP 0 rfl rfl 5 (by decide) q_f_RX11_26_LimbSolverModel_n_I (fun _ h9 => h9) rfl dX11_modulo_324 ?_
                  refine zr_icmp_ge hx hb 425 ⟨by omega, by omega⟩ ⟨by omega, by omega⟩ dX11_modulo_327 (by decide) (fun h_327 => ?_) (fun h_327 => ?_)
                  · refine lv_iinc (v := iZ (((c9 + 1 : Nat) : Int))) (lv' := [(4, .int (iZ (((c9 + 1 : Nat) : Int)))), (10, .int (iZ (((i : Nat) : Int)))), (8, .long (lZ (by9))), (2, .long (lZ (al3))), (0, .ref (mo)), (1, .int (iZ (q9)))]) hx hb dX11_modulo_425 hl (k := 2) rfl (by rw [show ((c9 + 1 : Nat) : Int) = ((c9 : Nat) : Int) + 1 by omega]; exact iZ_add _ _) (by decide) rfl (fun ls hl => ?_)
                    refine lv_goto (tgt := 138) hx hb dX11_modulo_428 (by decide) ?_
                    exact ihC (c9 + 1) al3 Z3 (pm_cl q9 (pm_sw R R9 c9) c9) H locs ls (by omega) (pm_A_ext hP3 (fun a b h1 h2 => by rw [show i = nn by omega]; exact pm_c2 q9 _ h1)) ⟨by omega, by omega⟩ (Or.inr hb3.2) hgo3 hP hD hS (lv_sub hl [0, 3, 4, 5] rfl)
                  · exfalso; omega
                | succ t ih =>
                  intro i Z3 H locs ls hit hic hP3 hP hD hS hl
                  refine lv_iload hx hb dX11_modulo_321 (lv_at hl 0 rfl) ?_
                  refine lv_aload_n hx hb dX11_modulo_323 rfl (lv_at hl 4 rfl) ?_
                  refine va_get (D := D) (ci := 11) (v := .int (iZ (((nn : Nat) : Int)))) (C := RX11) (T := TX11) (N := 14) hx hb hts hin11 hown hK hP 0 rfl rfl 5 (by decide) q_f_RX11_26_LimbSolverModel_n_I (fun _ h9 => h9) rfl dX11_modulo_324 ?_
                  refine zr_icmp_ge hx hb 425 ⟨by omega, by omega⟩ ⟨by omega, by omega⟩ dX11_modulo_327 (by decide) (fun h_327 => ?_) (fun h_327 => ?_)
                  · exfalso; omega
                  · have ihI := ih
                    have hic3 := hP3 i c9 (by omega) (by omega)
                    have hic4 := hic3.2
                    rw [pm_ca _ _ _ _ _ _ (Nat.le_refl c9)] at hic4
                    have hmm0 := pm_mul (a := (pm_sw R R9 c9) i c9) (b := by9) hic4.1 (by omega) hby0.1 (by omega)
                    refine lv_aload_n hx hb dX11_modulo_330 rfl (lv_at hl 4 rfl) ?_
                    refine va_get (D := D) (ci := 11) (v := .ref (rs)) (C := RX11) (T := TX11) (N := 14) hx hb hts hin11 hown hK hP 0 rfl rfl 13 (by decide) q_f_RX11_33_LimbSolverModel_residue_J (fun _ h9 => h9) rfl dX11_modulo_331 ?_
                    refine lv_bipush (v := iZ 6) hx hb dX11_modulo_334 (by decide) ?_
                    refine lv_iload hx hb dX11_modulo_336 (lv_at hl 0 rfl) ?_
                    refine zr_imul hx hb dX11_modulo_338 ?_
                    refine lv_iload hx hb dX11_modulo_339 (lv_at hl 2 rfl) ?_
                    refine zr_iadd hx hb dX11_modulo_341 ?_
                    refine zr_lald hx hb hK hP 4 1 rfl rfl (6 * i + c9) (by omega) (by omega) (by omega) dX11_modulo_342 ?_
                    refine zr_eql ((pm_sw R R9 c9) i c9) (by rw [hic3.1, pm_ca _ _ _ _ _ _ (Nat.le_refl c9)]) ?_
                    refine lv_lload hx hb dX11_modulo_343 (lv_at hl 1 rfl) ?_
                    refine zr_lmul hx hb dX11_modulo_345 ?_
                    refine lv_iload_n hx hb dX11_modulo_346 rfl (lv_at hl 5 rfl) ?_
                    refine zr_i2l hx hb ⟨by omega, by omega⟩ dX11_modulo_347 ?_
                    refine zr_lrem hx hb ⟨by omega, by omega⟩ ⟨by omega, by omega⟩ (by omega) (by omega) dX11_modulo_348 ?_
                    refine zr_topl (fun m9 hm9 => ?_)
                    refine lv_lstore (lv' := [(11, .long (lZ (m9))), (10, .int (iZ (((i : Nat) : Int)))), (8, .long (lZ (by9))), (4, .int (iZ (((c9 : Nat) : Int)))), (2, .long (lZ (al3))), (0, .ref (mo)), (1, .int (iZ (q9)))]) hx hb dX11_modulo_349 hl (by decide) rfl (fun ls hl => ?_)
                    refine lv_iload hx hb dX11_modulo_351 (lv_at hl 3 rfl) ?_
                    refine lv_istore (lv' := [(13, .int (iZ (((c9 : Nat) : Int)))), (11, .long (lZ (m9))), (10, .int (iZ (((i : Nat) : Int)))), (8, .long (lZ (by9))), (4, .int (iZ (((c9 : Nat) : Int)))), (2, .long (lZ (al3))), (0, .ref (mo)), (1, .int (iZ (q9)))]) hx hb dX11_modulo_353 hl (by decide) rfl (fun ls hl => ?_)
                    have hm90 : 0 ≤ m9 ∧ m9 < q9 := by rw [hm9]; exact ⟨Int.emod_nonneg _ (by omega), Int.emod_lt_of_pos _ (by omega)⟩
                    have klp : ∀ (t : Nat) (k : Nat) (Z4 : Nat → Int) (H : Heap) (locs : List Loc) (ls : Array Slot), (k + t = nn) → (c9 ≤ k) → (pm_A nn q9 Z4 (pm_clk q9 i k (pm_sw R R9 c9) c9)) →  va_P D vwCl [(mo, mo_ fg le sg tp bl pr rs (((nn : Nat) : Int)) (dn) (sv) (rk) (tn) (ms) (0)), (fg, aI cI (52200) (F)), (le, aI cI (190) (Ln)), (sg, aI cI (90) (Sg)), (rs, aJ cJ (36) (Z4))] H → va_D A [(mo, mo_ fg le sg tp bl pr rs (((nn : Nat) : Int)) (dn) (sv) (rk) (tn) (ms) (0)), (fg, aI cI (52200) (F)), (le, aI cI (190) (Ln)), (sg, aI cI (90) (Sg)), (rs, aJ cJ (36) (Z4))] → va_S A s.heap H locs → lv_has ls 14 [(13, .int (iZ (((k : Nat) : Int)))), (11, .long (lZ (m9))), (10, .int (iZ (((i : Nat) : Int)))), (8, .long (lZ (by9))), (4, .int (iZ (((c9 : Nat) : Int)))), (2, .long (lZ (al3))), (0, .ref (mo)), (1, .int (iZ (q9)))] → W zp l ze (zRm 2 80) s zm args below meth zc H locs 0 0 Q (F0 zm 355 ls []) := by
                      intro t
                      induction t with
                      | zero =>
                        intro k Z4 H locs ls hkt hkc hP4 hP hD hS hl
                        refine lv_iload hx hb dX11_modulo_355 (lv_at hl 0 rfl) ?_
                        refine lv_aload_n hx hb dX11_modulo_357 rfl (lv_at hl 6 rfl) ?_
                        refine va_get (D := D) (ci := 11) (v := .int (iZ (((nn : Nat) : Int)))) (C := RX11) (T := TX11) (N := 14) hx hb hts hin11 hown hK hP 0 rfl rfl 5 (by decide) q_f_RX11_26_LimbSolverModel_n_I (fun _ h9 => h9) rfl dX11_modulo_358 ?_
                        refine zr_icmp_ge hx hb 419 ⟨by omega, by omega⟩ ⟨by omega, by omega⟩ dX11_modulo_361 (by decide) (fun h_361 => ?_) (fun h_361 => ?_)
                        · refine lv_iinc (v := iZ (((i + 1 : Nat) : Int))) (lv' := [(10, .int (iZ (((i + 1 : Nat) : Int)))), (13, .int (iZ (((k : Nat) : Int)))), (11, .long (lZ (m9))), (8, .long (lZ (by9))), (4, .int (iZ (((c9 : Nat) : Int)))), (2, .long (lZ (al3))), (0, .ref (mo)), (1, .int (iZ (q9)))]) hx hb dX11_modulo_419 hl (k := 2) rfl (by rw [show ((i + 1 : Nat) : Int) = ((i : Nat) : Int) + 1 by omega]; exact iZ_add _ _) (by decide) rfl (fun ls hl => ?_)
                          refine lv_goto (tgt := 321) hx hb dX11_modulo_422 (by decide) ?_
                          exact ihI (i + 1) Z4 H locs ls (by omega) (by omega) (pm_A_ext hP4 (fun a b h1 h2 => by rw [show k = nn by omega]; exact pm_c1 q9 _ h2)) hP hD hS (lv_sub hl [0, 3, 4, 5, 6, 7] rfl)
                        · exfalso; omega
                      | succ t ih =>
                        intro k Z4 H locs ls hkt hkc hP4 hP hD hS hl
                        refine lv_iload hx hb dX11_modulo_355 (lv_at hl 0 rfl) ?_
                        refine lv_aload_n hx hb dX11_modulo_357 rfl (lv_at hl 6 rfl) ?_
                        refine va_get (D := D) (ci := 11) (v := .int (iZ (((nn : Nat) : Int)))) (C := RX11) (T := TX11) (N := 14) hx hb hts hin11 hown hK hP 0 rfl rfl 5 (by decide) q_f_RX11_26_LimbSolverModel_n_I (fun _ h9 => h9) rfl dX11_modulo_358 ?_
                        refine zr_icmp_ge hx hb 419 ⟨by omega, by omega⟩ ⟨by omega, by omega⟩ dX11_modulo_361 (by decide) (fun h_361 => ?_) (fun h_361 => ?_)
                        · exfalso; omega
                        · have hik := hP4 i k (by omega) (by omega)
                          have hck := hP4 c9 k (by omega) (by omega)
                          have hik2 := hik.2
                          have hck2 := hck.2
                          rw [pm_ca _ _ _ _ _ _ (Nat.le_refl k)] at hik2
                          rw [pm_cr] at hck2
                          have hmm := pm_mul (a := q9 - m9) (b := (pm_sw R R9 c9) c9 k) (by omega) (by omega) hck2.1 (by omega)
                          refine lv_aload_n hx hb dX11_modulo_364 rfl (lv_at hl 6 rfl) ?_
                          refine va_get (D := D) (ci := 11) (v := .ref (rs)) (C := RX11) (T := TX11) (N := 14) hx hb hts hin11 hown hK hP 0 rfl rfl 13 (by decide) q_f_RX11_33_LimbSolverModel_residue_J (fun _ h9 => h9) rfl dX11_modulo_365 ?_
                          refine lv_bipush (v := iZ 6) hx hb dX11_modulo_368 (by decide) ?_
                          refine lv_iload hx hb dX11_modulo_370 (lv_at hl 2 rfl) ?_
                          refine zr_imul hx hb dX11_modulo_372 ?_
                          refine lv_iload hx hb dX11_modulo_373 (lv_at hl 0 rfl) ?_
                          refine zr_iadd hx hb dX11_modulo_375 ?_
                          refine lv_aload_n hx hb dX11_modulo_376 rfl (lv_at hl 6 rfl) ?_
                          refine va_get (D := D) (ci := 11) (v := .ref (rs)) (C := RX11) (T := TX11) (N := 14) hx hb hts hin11 hown hK hP 0 rfl rfl 13 (by decide) q_f_RX11_33_LimbSolverModel_residue_J (fun _ h9 => h9) rfl dX11_modulo_377 ?_
                          refine lv_bipush (v := iZ 6) hx hb dX11_modulo_380 (by decide) ?_
                          refine lv_iload hx hb dX11_modulo_382 (lv_at hl 2 rfl) ?_
                          refine zr_imul hx hb dX11_modulo_384 ?_
                          refine lv_iload hx hb dX11_modulo_385 (lv_at hl 0 rfl) ?_
                          refine zr_iadd hx hb dX11_modulo_387 ?_
                          refine zr_lald hx hb hK hP 4 1 rfl rfl (6 * i + k) (by omega) (by omega) (by omega) dX11_modulo_388 ?_
                          refine zr_eql ((pm_sw R R9 c9) i k) (by rw [hik.1, pm_ca _ _ _ _ _ _ (Nat.le_refl k)]) ?_
                          refine lv_iload_n hx hb dX11_modulo_389 rfl (lv_at hl 7 rfl) ?_
                          refine zr_i2l hx hb ⟨by omega, by omega⟩ dX11_modulo_390 ?_
                          refine lv_lload hx hb dX11_modulo_391 (lv_at hl 1 rfl) ?_
                          refine zr_lsub hx hb dX11_modulo_393 ?_
                          refine lv_aload_n hx hb dX11_modulo_394 rfl (lv_at hl 6 rfl) ?_
                          refine va_get (D := D) (ci := 11) (v := .ref (rs)) (C := RX11) (T := TX11) (N := 14) hx hb hts hin11 hown hK hP 0 rfl rfl 13 (by decide) q_f_RX11_33_LimbSolverModel_residue_J (fun _ h9 => h9) rfl dX11_modulo_395 ?_
                          refine lv_bipush (v := iZ 6) hx hb dX11_modulo_398 (by decide) ?_
                          refine lv_iload hx hb dX11_modulo_400 (lv_at hl 4 rfl) ?_
                          refine zr_imul hx hb dX11_modulo_402 ?_
                          refine lv_iload hx hb dX11_modulo_403 (lv_at hl 0 rfl) ?_
                          refine zr_iadd hx hb dX11_modulo_405 ?_
                          refine zr_lald hx hb hK hP 4 1 rfl rfl (6 * c9 + k) (by omega) (by omega) (by omega) dX11_modulo_406 ?_
                          refine zr_eql ((pm_sw R R9 c9) c9 k) (by rw [hck.1, pm_cr]) ?_
                          refine zr_lmul hx hb dX11_modulo_407 ?_
                          refine zr_ladd hx hb dX11_modulo_408 ?_
                          refine lv_iload_n hx hb dX11_modulo_409 rfl (lv_at hl 7 rfl) ?_
                          refine zr_i2l hx hb ⟨by omega, by omega⟩ dX11_modulo_410 ?_
                          refine zr_lrem hx hb ⟨by omega, by omega⟩ ⟨by omega, by omega⟩ (by omega) (by omega) dX11_modulo_411 ?_
                          refine zr_eql (((pm_sw R R9 c9) i k - m9 * (pm_sw R R9 c9) c9 k) % q9) (pm_ee _ _ _ rfl) ?_
                          refine zr_last hx hb hK hP hD hS 4 1 rfl rfl (6 * i + k) (by omega) (by omega) (by omega) dX11_modulo_412 (fun H locs hP hD hS => ?_)
                          have hP : va_P D vwCl [(mo, mo_ fg le sg tp bl pr rs (((nn : Nat) : Int)) (dn) (sv) (rk) (tn) (ms) (0)), (fg, aI cI (52200) (F)), (le, aI cI (190) (Ln)), (sg, aI cI (90) (Sg)), (rs, aJ cJ (36) (zu (Z4) (6 * i + k) (((pm_sw R R9 c9) i k - m9 * (pm_sw R R9 c9) c9 k) % q9)))] H := hP
                          have hD : va_D A [(mo, mo_ fg le sg tp bl pr rs (((nn : Nat) : Int)) (dn) (sv) (rk) (tn) (ms) (0)), (fg, aI cI (52200) (F)), (le, aI cI (190) (Ln)), (sg, aI cI (90) (Sg)), (rs, aJ cJ (36) (zu (Z4) (6 * i + k) (((pm_sw R R9 c9) i k - m9 * (pm_sw R R9 c9) c9 k) % q9)))] := hD
                          refine lv_iinc (v := iZ (((k + 1 : Nat) : Int))) (lv' := [(13, .int (iZ (((k + 1 : Nat) : Int)))), (11, .long (lZ (m9))), (10, .int (iZ (((i : Nat) : Int)))), (8, .long (lZ (by9))), (4, .int (iZ (((c9 : Nat) : Int)))), (2, .long (lZ (al3))), (0, .ref (mo)), (1, .int (iZ (q9)))]) hx hb dX11_modulo_413 hl (k := 0) rfl (by rw [show ((k + 1 : Nat) : Int) = ((k : Nat) : Int) + 1 by omega]; exact iZ_add _ _) (by decide) rfl (fun ls hl => ?_)
                          refine lv_goto (tgt := 355) hx hb dX11_modulo_416 (by decide) ?_
                          exact ih (k + 1) _ H locs ls (by omega) (by omega) (pm_A_cl hP4 (by omega) hn (by omega) (by omega) hic hkc (by rw [hm9, hby, pm_cc R9 c9 R])) hP hD hS (lv_sub hl [0, 1, 2, 3, 4, 5, 6, 7] rfl)
                    exact klp (nn - c9) c9 Z3 H locs ls (by omega) (Nat.le_refl _) hP3 hP hD hS (lv_sub hl [0, 1, 2, 3, 4, 5, 6, 7] rfl)
              exact ilp (nn - (c9 + 1)) (c9 + 1) Z2 H locs ls (by omega) (by omega) (pm_A_ext hP2 (fun a b _ _ => (pm_c0 q9 _ c9 a b).symm)) hP hD hS (lv_sub hl [0, 1, 4, 2, 5, 6] rfl)
            have xlp : R9 ≠ c9 → ∀ (t : Nat) (k : Nat) (Z5 : Nat → Int) (H : Heap) (locs : List Loc) (ls : Array Slot), (k + t = nn) → (pm_A nn q9 Z5 (pm_swk k R R9 c9)) →  va_P D vwCl [(mo, mo_ fg le sg tp bl pr rs (((nn : Nat) : Int)) (dn) (sv) (rk) (tn) (ms) (0)), (fg, aI cI (52200) (F)), (le, aI cI (190) (Ln)), (sg, aI cI (90) (Sg)), (rs, aJ cJ (36) (Z5))] H → va_D A [(mo, mo_ fg le sg tp bl pr rs (((nn : Nat) : Int)) (dn) (sv) (rk) (tn) (ms) (0)), (fg, aI cI (52200) (F)), (le, aI cI (190) (Ln)), (sg, aI cI (90) (Sg)), (rs, aJ cJ (36) (Z5))] → va_S A s.heap H locs → lv_has ls 14 [(6, .int (iZ (((k : Nat) : Int)))), (5, .int (iZ (((R9 : Nat) : Int)))), (4, .int (iZ (((c9 : Nat) : Int)))), (2, .long (lZ (q9 - al))), (0, .ref (mo)), (1, .int (iZ (q9)))] → W zp l ze (zRm 2 80) s zm args below meth zc H locs 0 0 Q (F0 zm 210 ls []) := by
              intro hRc t
              induction t with
              | zero =>
                intro k Z5 H locs ls hkt hP5 hP hD hS hl
                refine lv_iload hx hb dX11_modulo_210 (lv_at hl 0 rfl) ?_
                refine lv_aload_n hx hb dX11_modulo_212 rfl (lv_at hl 4 rfl) ?_
                refine va_get (D := D) (ci := 11) (v := .int (iZ (((nn : Nat) : Int)))) (C := RX11) (T := TX11) (N := 14) hx hb hts hin11 hown hK hP 0 rfl rfl 5 (by decide) q_f_RX11_26_LimbSolverModel_n_I (fun _ h9 => h9) rfl dX11_modulo_213 ?_
                refine zr_icmp_ge hx hb 281 ⟨by omega, by omega⟩ ⟨by omega, by omega⟩ dX11_modulo_216 (by decide) (fun h_216 => ?_) (fun h_216 => ?_)
                · exact j281 (q9 - al) Z5 H locs ls (pm_A_ext hP5 (fun a b _ h2 => by show (if b < k then pm_sw R R9 c9 a b else R a b) = _; rw [if_pos (by omega)])) (by rw [if_neg hRc]) hP hD hS (lv_sub hl [2, 3, 4, 5] rfl)
                · exfalso; omega
              | succ t ih =>
                intro k Z5 H locs ls hkt hP5 hP hD hS hl
                refine lv_iload hx hb dX11_modulo_210 (lv_at hl 0 rfl) ?_
                refine lv_aload_n hx hb dX11_modulo_212 rfl (lv_at hl 4 rfl) ?_
                refine va_get (D := D) (ci := 11) (v := .int (iZ (((nn : Nat) : Int)))) (C := RX11) (T := TX11) (N := 14) hx hb hts hin11 hown hK hP 0 rfl rfl 5 (by decide) q_f_RX11_26_LimbSolverModel_n_I (fun _ h9 => h9) rfl dX11_modulo_213 ?_
                refine zr_icmp_ge hx hb 281 ⟨by omega, by omega⟩ ⟨by omega, by omega⟩ dX11_modulo_216 (by decide) (fun h_216 => ?_) (fun h_216 => ?_)
                · exfalso; omega
                · refine lv_aload_n hx hb dX11_modulo_219 rfl (lv_at hl 4 rfl) ?_
                  refine va_get (D := D) (ci := 11) (v := .ref (rs)) (C := RX11) (T := TX11) (N := 14) hx hb hts hin11 hown hK hP 0 rfl rfl 13 (by decide) q_f_RX11_33_LimbSolverModel_residue_J (fun _ h9 => h9) rfl dX11_modulo_220 ?_
                  refine lv_bipush (v := iZ 6) hx hb dX11_modulo_223 (by decide) ?_
                  refine lv_iload hx hb dX11_modulo_225 (lv_at hl 1 rfl) ?_
                  refine zr_imul hx hb dX11_modulo_227 ?_
                  refine lv_iload hx hb dX11_modulo_228 (lv_at hl 0 rfl) ?_
                  refine zr_iadd hx hb dX11_modulo_230 ?_
                  refine zr_lald hx hb hK hP 4 1 rfl rfl (6 * R9 + k) (by omega) (by omega) (by omega) dX11_modulo_231 ?_
                  refine lv_lstore (lv' := [(7, .long (lZ ((Z5) (6 * R9 + k)))), (6, .int (iZ (((k : Nat) : Int)))), (5, .int (iZ (((R9 : Nat) : Int)))), (4, .int (iZ (((c9 : Nat) : Int)))), (2, .long (lZ (q9 - al))), (0, .ref (mo)), (1, .int (iZ (q9)))]) hx hb dX11_modulo_232 hl (by decide) rfl (fun ls hl => ?_)
                  refine lv_aload_n hx hb dX11_modulo_234 rfl (lv_at hl 5 rfl) ?_
                  refine va_get (D := D) (ci := 11) (v := .ref (rs)) (C := RX11) (T := TX11) (N := 14) hx hb hts hin11 hown hK hP 0 rfl rfl 13 (by decide) q_f_RX11_33_LimbSolverModel_residue_J (fun _ h9 => h9) rfl dX11_modulo_235 ?_
                  refine lv_bipush (v := iZ 6) hx hb dX11_modulo_238 (by decide) ?_
                  refine lv_iload hx hb dX11_modulo_240 (lv_at hl 2 rfl) ?_
                  refine zr_imul hx hb dX11_modulo_242 ?_
                  refine lv_iload hx hb dX11_modulo_243 (lv_at hl 1 rfl) ?_
                  refine zr_iadd hx hb dX11_modulo_245 ?_
                  refine lv_aload_n hx hb dX11_modulo_246 rfl (lv_at hl 5 rfl) ?_
                  refine va_get (D := D) (ci := 11) (v := .ref (rs)) (C := RX11) (T := TX11) (N := 14) hx hb hts hin11 hown hK hP 0 rfl rfl 13 (by decide) q_f_RX11_33_LimbSolverModel_residue_J (fun _ h9 => h9) rfl dX11_modulo_247 ?_
                  refine lv_bipush (v := iZ 6) hx hb dX11_modulo_250 (by decide) ?_
                  refine lv_iload hx hb dX11_modulo_252 (lv_at hl 3 rfl) ?_
                  refine zr_imul hx hb dX11_modulo_254 ?_
                  refine lv_iload hx hb dX11_modulo_255 (lv_at hl 1 rfl) ?_
                  refine zr_iadd hx hb dX11_modulo_257 ?_
                  refine zr_lald hx hb hK hP 4 1 rfl rfl (6 * c9 + k) (by omega) (by omega) (by omega) dX11_modulo_258 ?_
                  refine zr_last hx hb hK hP hD hS 4 1 rfl rfl (6 * R9 + k) (by omega) (by omega) (by omega) dX11_modulo_259 (fun H locs hP hD hS => ?_)
                  have hP : va_P D vwCl [(mo, mo_ fg le sg tp bl pr rs (((nn : Nat) : Int)) (dn) (sv) (rk) (tn) (ms) (0)), (fg, aI cI (52200) (F)), (le, aI cI (190) (Ln)), (sg, aI cI (90) (Sg)), (rs, aJ cJ (36) (zu (Z5) (6 * R9 + k) ((Z5) (6 * c9 + k))))] H := hP
                  have hD : va_D A [(mo, mo_ fg le sg tp bl pr rs (((nn : Nat) : Int)) (dn) (sv) (rk) (tn) (ms) (0)), (fg, aI cI (52200) (F)), (le, aI cI (190) (Ln)), (sg, aI cI (90) (Sg)), (rs, aJ cJ (36) (zu (Z5) (6 * R9 + k) ((Z5) (6 * c9 + k))))] := hD
                  refine lv_aload_n hx hb dX11_modulo_260 rfl (lv_at hl 5 rfl) ?_
                  refine va_get (D := D) (ci := 11) (v := .ref (rs)) (C := RX11) (T := TX11) (N := 14) hx hb hts hin11 hown hK hP 0 rfl rfl 13 (by decide) q_f_RX11_33_LimbSolverModel_residue_J (fun _ h9 => h9) rfl dX11_modulo_261 ?_
                  refine lv_bipush (v := iZ 6) hx hb dX11_modulo_264 (by decide) ?_
                  refine lv_iload hx hb dX11_modulo_266 (lv_at hl 3 rfl) ?_
                  refine zr_imul hx hb dX11_modulo_268 ?_
                  refine lv_iload hx hb dX11_modulo_269 (lv_at hl 1 rfl) ?_
                  refine zr_iadd hx hb dX11_modulo_271 ?_
                  refine lv_lload hx hb dX11_modulo_272 (lv_at hl 0 rfl) ?_
                  refine zr_last hx hb hK hP hD hS 4 1 rfl rfl (6 * c9 + k) (by omega) (by omega) (by omega) dX11_modulo_274 (fun H locs hP hD hS => ?_)
                  have hP : va_P D vwCl [(mo, mo_ fg le sg tp bl pr rs (((nn : Nat) : Int)) (dn) (sv) (rk) (tn) (ms) (0)), (fg, aI cI (52200) (F)), (le, aI cI (190) (Ln)), (sg, aI cI (90) (Sg)), (rs, aJ cJ (36) (zu (zu (Z5) (6 * R9 + k) ((Z5) (6 * c9 + k))) (6 * c9 + k) ((Z5) (6 * R9 + k))))] H := hP
                  have hD : va_D A [(mo, mo_ fg le sg tp bl pr rs (((nn : Nat) : Int)) (dn) (sv) (rk) (tn) (ms) (0)), (fg, aI cI (52200) (F)), (le, aI cI (190) (Ln)), (sg, aI cI (90) (Sg)), (rs, aJ cJ (36) (zu (zu (Z5) (6 * R9 + k) ((Z5) (6 * c9 + k))) (6 * c9 + k) ((Z5) (6 * R9 + k))))] := hD
                  refine lv_iinc (v := iZ (((k + 1 : Nat) : Int))) (lv' := [(6, .int (iZ (((k + 1 : Nat) : Int)))), (7, .long (lZ ((Z5) (6 * R9 + k)))), (5, .int (iZ (((R9 : Nat) : Int)))), (4, .int (iZ (((c9 : Nat) : Int)))), (2, .long (lZ (q9 - al))), (0, .ref (mo)), (1, .int (iZ (q9)))]) hx hb dX11_modulo_275 hl (k := 1) rfl (by rw [show ((k + 1 : Nat) : Int) = ((k : Nat) : Int) + 1 by omega]; exact iZ_add _ _) (by decide) rfl (fun ls hl => ?_)
                  refine lv_goto (tgt := 210) hx hb dX11_modulo_278 (by decide) ?_
                  exact ih (k + 1) _ H locs ls (by omega) (pm_A_sw hP5 hn (by omega) (by omega) (by omega) hRc) hP hD hS (lv_sub hl [0, 2, 3, 4, 5, 6] rfl)
            refine lv_iload hx hb dX11_modulo_184 (lv_at hl 0 rfl) ?_
            refine lv_aload_n hx hb dX11_modulo_186 rfl (lv_at hl 3 rfl) ?_
            refine va_get (D := D) (ci := 11) (v := .int (iZ (((nn : Nat) : Int)))) (C := RX11) (T := TX11) (N := 14) hx hb hts hin11 hown hK hP 0 rfl rfl 5 (by decide) q_f_RX11_26_LimbSolverModel_n_I (fun _ h9 => h9) rfl dX11_modulo_187 ?_
            refine zr_icmp_ne hx hb 195 ⟨by omega, by omega⟩ ⟨by omega, by omega⟩ dX11_modulo_190 (by decide) (fun h_190 => ?_) (fun h_190 => ?_)
            · refine lv_iload hx hb dX11_modulo_195 (lv_at hl 0 rfl) ?_
              refine lv_iload hx hb dX11_modulo_197 (lv_at hl 1 rfl) ?_
              refine zr_icmp_eq hx hb 281 ⟨by omega, by omega⟩ ⟨by omega, by omega⟩ dX11_modulo_199 (by decide) (fun h_199 => ?_) (fun h_199 => ?_)
              · exact j281 al Z1 H locs ls (by rw [show R9 = c9 by omega, pm_sw_same]; exact hPA) (by rw [if_pos (by omega)]) hP hD hS (lv_sub hl [1, 2, 3, 4] rfl)
              · have hRc0 : R9 ≠ c9 := by omega
                refine lv_iload_n hx hb dX11_modulo_202 rfl (lv_at hl 4 rfl) ?_
                refine zr_i2l hx hb ⟨by omega, by omega⟩ dX11_modulo_203 ?_
                refine lv_lload_n hx hb dX11_modulo_204 rfl (lv_at hl 2 rfl) ?_
                refine zr_lsub hx hb dX11_modulo_205 ?_
                refine lv_lstore_n (lv' := [(2, .long (lZ ((q9) - (al)))), (5, .int (iZ (((R9 : Nat) : Int)))), (4, .int (iZ (((c9 : Nat) : Int)))), (0, .ref (mo)), (1, .int (iZ (q9)))]) hx hb dX11_modulo_206 rfl hl (by decide) rfl (fun ls hl => ?_)
                refine lv_iconst (v := iZ 0) hx hb dX11_modulo_207 rfl ?_
                refine lv_istore (lv' := [(6, .int (iZ (0))), (2, .long (lZ ((q9) - (al)))), (5, .int (iZ (((R9 : Nat) : Int)))), (4, .int (iZ (((c9 : Nat) : Int)))), (0, .ref (mo)), (1, .int (iZ (q9)))]) hx hb dX11_modulo_208 hl (by decide) rfl (fun ls hl => ?_)
                exact xlp hRc0 nn 0 Z1 H locs ls (by omega) (by rw [pm_swk_0]; exact hPA) hP hD hS (lv_sub hl [0, 2, 3, 1, 4, 5] rfl)
            · exfalso; omega
          · refine lv_iload hx hb dX11_modulo_184 (lv_at hl 0 rfl) ?_
            refine lv_aload_n hx hb dX11_modulo_186 rfl (lv_at hl 3 rfl) ?_
            refine va_get (D := D) (ci := 11) (v := .int (iZ (((nn : Nat) : Int)))) (C := RX11) (T := TX11) (N := 14) hx hb hts hin11 hown hK hP 0 rfl rfl 5 (by decide) q_f_RX11_26_LimbSolverModel_n_I (fun _ h9 => h9) rfl dX11_modulo_187 ?_
            refine zr_icmp_ne hx hb 195 ⟨by omega, by omega⟩ ⟨by omega, by omega⟩ dX11_modulo_190 (by decide) (fun h_190 => ?_) (fun h_190 => ?_)
            · exfalso; omega
            · refine lv_iconst (v := iZ 0) hx hb dX11_modulo_193 rfl ?_
              exact zr_iret hQ hx hb hr hlk dX11_modulo_194 hK hP hD hS (by omega) (by omega) (by decide) (⟨Z1, rfl, Or.inr (Or.inr ⟨hpr, hden, by rw [← hW0, ← hgo]; exact (if_neg (show ¬ pm_find R c9 c9 (nn - c9) < nn by omega)).symm⟩)⟩)
        have rlp : ∀ (t : Nat) (R8 : Nat) (H : Heap) (locs : List Loc) (ls : Array Slot), (R8 + t = nn) → (c9 ≤ R8) → (pm_find R c9 R8 t = pm_find R c9 c9 (nn - c9)) →  va_P D vwCl [(mo, mo_ fg le sg tp bl pr rs (((nn : Nat) : Int)) (dn) (sv) (rk) (tn) (ms) (0)), (fg, aI cI (52200) (F)), (le, aI cI (190) (Ln)), (sg, aI cI (90) (Sg)), (rs, aJ cJ (36) (Z1))] H → va_D A [(mo, mo_ fg le sg tp bl pr rs (((nn : Nat) : Int)) (dn) (sv) (rk) (tn) (ms) (0)), (fg, aI cI (52200) (F)), (le, aI cI (190) (Ln)), (sg, aI cI (90) (Sg)), (rs, aJ cJ (36) (Z1))] → va_S A s.heap H locs → lv_has ls 14 [(5, .int (iZ (((R8 : Nat) : Int)))), (4, .int (iZ (((c9 : Nat) : Int)))), (2, .long (lZ (al))), (0, .ref (mo)), (1, .int (iZ (q9)))] → W zp l ze (zRm 2 80) s zm args below meth zc H locs 0 0 Q (F0 zm 151 ls []) := by
          intro t
          induction t with
          | zero =>
            intro R8 H locs ls hrt hr0 hfd hP hD hS hl
            refine lv_iload hx hb dX11_modulo_151 (lv_at hl 0 rfl) ?_
            refine lv_aload_n hx hb dX11_modulo_153 rfl (lv_at hl 3 rfl) ?_
            refine va_get (D := D) (ci := 11) (v := .int (iZ (((nn : Nat) : Int)))) (C := RX11) (T := TX11) (N := 14) hx hb hts hin11 hown hK hP 0 rfl rfl 5 (by decide) q_f_RX11_26_LimbSolverModel_n_I (fun _ h9 => h9) rfl dX11_modulo_154 ?_
            refine zr_icmp_ge hx hb 184 ⟨by omega, by omega⟩ ⟨by omega, by omega⟩ dX11_modulo_157 (by decide) (fun h_157 => ?_) (fun h_157 => ?_)
            · exact j184 R8 H locs ls (by rw [← hfd]; rfl) (by omega) hP hD hS (lv_sub hl [0, 1, 2, 3, 4] rfl)
            · exfalso; omega
          | succ t ih =>
            intro R8 H locs ls hrt hr0 hfd hP hD hS hl
            refine lv_iload hx hb dX11_modulo_151 (lv_at hl 0 rfl) ?_
            refine lv_aload_n hx hb dX11_modulo_153 rfl (lv_at hl 3 rfl) ?_
            refine va_get (D := D) (ci := 11) (v := .int (iZ (((nn : Nat) : Int)))) (C := RX11) (T := TX11) (N := 14) hx hb hts hin11 hown hK hP 0 rfl rfl 5 (by decide) q_f_RX11_26_LimbSolverModel_n_I (fun _ h9 => h9) rfl dX11_modulo_154 ?_
            refine zr_icmp_ge hx hb 184 ⟨by omega, by omega⟩ ⟨by omega, by omega⟩ dX11_modulo_157 (by decide) (fun h_157 => ?_) (fun h_157 => ?_)
            · exfalso; omega
            · have hrr := (hPA R8 c9 (by omega) (by omega)).2
              refine lv_aload_n hx hb dX11_modulo_160 rfl (lv_at hl 3 rfl) ?_
              refine va_get (D := D) (ci := 11) (v := .ref (rs)) (C := RX11) (T := TX11) (N := 14) hx hb hts hin11 hown hK hP 0 rfl rfl 13 (by decide) q_f_RX11_33_LimbSolverModel_residue_J (fun _ h9 => h9) rfl dX11_modulo_161 ?_
              refine lv_bipush (v := iZ 6) hx hb dX11_modulo_164 (by decide) ?_
              refine lv_iload hx hb dX11_modulo_166 (lv_at hl 0 rfl) ?_
              refine zr_imul hx hb dX11_modulo_168 ?_
              refine lv_iload hx hb dX11_modulo_169 (lv_at hl 1 rfl) ?_
              refine zr_iadd hx hb dX11_modulo_171 ?_
              refine zr_lald hx hb hK hP 4 1 rfl rfl (6 * R8 + c9) (by omega) (by omega) (by omega) dX11_modulo_172 ?_
              refine zr_eql (R R8 c9) (hPA R8 c9 (by omega) (by omega)).1 ?_
              refine lv_lconst (v := lZ 0) hx hb dX11_modulo_173 rfl ?_
              refine zr_lcmp_ne hx hb 184 ⟨by omega, by omega⟩ ⟨by omega, by omega⟩ dX11_modulo_174 dX11_modulo_175 (by decide) (fun h_174 => ?_) (fun h_174 => ?_)
              · exact j184 R8 H locs ls (by rw [← hfd]; exact if_neg h_174) (by omega) hP hD hS (lv_sub hl [0, 1, 2, 3, 4] rfl)
              · refine lv_iinc (v := iZ (((R8 + 1 : Nat) : Int))) (lv' := [(5, .int (iZ (((R8 + 1 : Nat) : Int)))), (4, .int (iZ (((c9 : Nat) : Int)))), (2, .long (lZ (al))), (0, .ref (mo)), (1, .int (iZ (q9)))]) hx hb dX11_modulo_178 hl (k := 0) rfl (by rw [show ((R8 + 1 : Nat) : Int) = ((R8 : Nat) : Int) + 1 by omega]; exact iZ_add _ _) (by decide) rfl (fun ls hl => ?_)
                refine lv_goto (tgt := 151) hx hb dX11_modulo_181 (by decide) ?_
                exact ih (R8 + 1) H locs ls (by omega) (by omega) (by rw [← hfd]; exact (if_pos h_174).symm) hP hD hS (lv_sub hl [0, 1, 2, 3, 4] rfl)
        refine lv_iload hx hb dX11_modulo_138 (lv_at hl 0 rfl) ?_
        refine lv_aload_n hx hb dX11_modulo_140 rfl (lv_at hl 2 rfl) ?_
        refine va_get (D := D) (ci := 11) (v := .int (iZ (((nn : Nat) : Int)))) (C := RX11) (T := TX11) (N := 14) hx hb hts hin11 hown hK hP 0 rfl rfl 5 (by decide) q_f_RX11_26_LimbSolverModel_n_I (fun _ h9 => h9) rfl dX11_modulo_141 ?_
        refine zr_icmp_ge hx hb 431 ⟨by omega, by omega⟩ ⟨by omega, by omega⟩ dX11_modulo_144 (by decide) (fun h_144 => ?_) (fun h_144 => ?_)
        · exfalso; omega
        · refine lv_iload hx hb dX11_modulo_147 (lv_at hl 0 rfl) ?_
          refine lv_istore (lv' := [(5, .int (iZ (((c9 : Nat) : Int)))), (4, .int (iZ (((c9 : Nat) : Int)))), (2, .long (lZ (al))), (0, .ref (mo)), (1, .int (iZ (q9)))]) hx hb dX11_modulo_149 hl (by decide) rfl (fun ls hl => ?_)
          exact rlp (nn - c9) c9 H locs ls (by omega) (Nat.le_refl _) rfl hP hD hS (lv_sub hl [0, 1, 2, 3, 4] rfl)
    have flp : ∀ (t : Nat) (i : Nat) (Z1 : Nat → Int) (H : Heap) (locs : List Loc) (ls : Array Slot), (i + t = nn) → (∀ a b : Nat, a < nn → b < nn → a < i → Z1 (6 * a + b) = pm_e V q9 (7 * a + b) ∧ ((V (7 * a + b)).den : Int) % q9 ≠ 0) →  va_P D vwCl [(mo, mo_ fg le sg tp bl pr rs (((nn : Nat) : Int)) (dn) (sv) (rk) (tn) (ms) (0)), (fg, aI cI (52200) (F)), (le, aI cI (190) (Ln)), (sg, aI cI (90) (Sg)), (rs, aJ cJ (36) (Z1))] H → va_D A [(mo, mo_ fg le sg tp bl pr rs (((nn : Nat) : Int)) (dn) (sv) (rk) (tn) (ms) (0)), (fg, aI cI (52200) (F)), (le, aI cI (190) (Ln)), (sg, aI cI (90) (Sg)), (rs, aJ cJ (36) (Z1))] → va_S A s.heap H locs → lv_has ls 14 [(2, .int (iZ (((i : Nat) : Int)))), (0, .ref (mo)), (1, .int (iZ (q9)))] → W zp l ze (zRm 2 80) s zm args below meth zc H locs 0 0 Q (F0 zm 16 ls []) := by
      intro t
      induction t with
      | zero =>
        intro i Z1 H locs ls hit hfi hP hD hS hl
        refine lv_iload_n hx hb dX11_modulo_16 rfl (lv_at hl 0 rfl) ?_
        refine lv_aload_n hx hb dX11_modulo_17 rfl (lv_at hl 1 rfl) ?_
        refine va_get (D := D) (ci := 11) (v := .int (iZ (((nn : Nat) : Int)))) (C := RX11) (T := TX11) (N := 14) hx hb hts hin11 hown hK hP 0 rfl rfl 5 (by decide) q_f_RX11_26_LimbSolverModel_n_I (fun _ h9 => h9) rfl dX11_modulo_18 ?_
        refine zr_icmp_ge hx hb 133 ⟨by omega, by omega⟩ ⟨by omega, by omega⟩ dX11_modulo_21 (by decide) (fun h_21 => ?_) (fun h_21 => ?_)
        · refine lv_lconst (v := lZ 1) hx hb dX11_modulo_133 rfl ?_
          refine lv_lstore_n (lv' := [(2, .long (lZ (1))), (0, .ref (mo)), (1, .int (iZ (q9)))]) hx hb dX11_modulo_134 rfl hl (by decide) rfl (fun ls hl => ?_)
          refine lv_iconst (v := iZ 0) hx hb dX11_modulo_135 rfl ?_
          refine zr_eqi (((0 : Nat) : Int)) (by rfl) ?_
          refine lv_istore (lv' := [(4, .int (iZ (((0 : Nat) : Int)))), (2, .long (lZ (1))), (0, .ref (mo)), (1, .int (iZ (q9)))]) hx hb dX11_modulo_136 hl (by decide) rfl (fun ls hl => ?_)
          exact clp (fun a b h1 h2 => (hfi a b h1 h2 (by omega)).2) nn 0 1 Z1 (fun i j => pm_e V q9 (7 * i + j)) H locs ls (by omega) (fun a b h1 h2 => ⟨(hfi a b h1 h2 (by omega)).1, pm_e_b V _ (by omega)⟩) ⟨by decide, by omega⟩ (Or.inl rfl) hW0.symm hP hD hS (lv_sub hl [0, 1, 2, 3] rfl)
        · exfalso; omega
      | succ t ih =>
        intro i Z1 H locs ls hit hfi hP hD hS hl
        have ihF := ih
        have jlp : ∀ (t : Nat) (j : Nat) (Z1 : Nat → Int) (H : Heap) (locs : List Loc) (ls : Array Slot), (j + t = nn) → (∀ a b : Nat, a < nn → b < nn → (a < i ∨ (a = i ∧ b < j)) → Z1 (6 * a + b) = pm_e V q9 (7 * a + b) ∧ ((V (7 * a + b)).den : Int) % q9 ≠ 0) →  va_P D vwCl [(mo, mo_ fg le sg tp bl pr rs (((nn : Nat) : Int)) (dn) (sv) (rk) (tn) (ms) (0)), (fg, aI cI (52200) (F)), (le, aI cI (190) (Ln)), (sg, aI cI (90) (Sg)), (rs, aJ cJ (36) (Z1))] H → va_D A [(mo, mo_ fg le sg tp bl pr rs (((nn : Nat) : Int)) (dn) (sv) (rk) (tn) (ms) (0)), (fg, aI cI (52200) (F)), (le, aI cI (190) (Ln)), (sg, aI cI (90) (Sg)), (rs, aJ cJ (36) (Z1))] → va_S A s.heap H locs → lv_has ls 14 [(3, .int (iZ (((j : Nat) : Int)))), (2, .int (iZ (((i : Nat) : Int)))), (0, .ref (mo)), (1, .int (iZ (q9)))] → W zp l ze (zRm 2 80) s zm args below meth zc H locs 0 0 Q (F0 zm 26 ls []) := by
          intro t
          induction t with
          | zero =>
            intro j Z1 H locs ls hjt hfi hP hD hS hl
            refine lv_iload_n hx hb dX11_modulo_26 rfl (lv_at hl 0 rfl) ?_
            refine lv_aload_n hx hb dX11_modulo_27 rfl (lv_at hl 2 rfl) ?_
            refine va_get (D := D) (ci := 11) (v := .int (iZ (((nn : Nat) : Int)))) (C := RX11) (T := TX11) (N := 14) hx hb hts hin11 hown hK hP 0 rfl rfl 5 (by decide) q_f_RX11_26_LimbSolverModel_n_I (fun _ h9 => h9) rfl dX11_modulo_28 ?_
            refine zr_icmp_ge hx hb 127 ⟨by omega, by omega⟩ ⟨by omega, by omega⟩ dX11_modulo_31 (by decide) (fun h_31 => ?_) (fun h_31 => ?_)
            · refine lv_iinc (v := iZ (((i + 1 : Nat) : Int))) (lv' := [(2, .int (iZ (((i + 1 : Nat) : Int)))), (3, .int (iZ (((j : Nat) : Int)))), (0, .ref (mo)), (1, .int (iZ (q9)))]) hx hb dX11_modulo_127 hl (k := 1) rfl (by rw [show ((i + 1 : Nat) : Int) = ((i : Nat) : Int) + 1 by omega]; exact iZ_add _ _) (by decide) rfl (fun ls hl => ?_)
              refine lv_goto (tgt := 16) hx hb dX11_modulo_130 (by decide) ?_
              exact ihF (i + 1) Z1 H locs ls (by omega) (fun a b h1 h2 h3 => hfi a b h1 h2 (by omega)) hP hD hS (lv_sub hl [0, 2, 3] rfl)
            · exfalso; omega
          | succ t ih =>
            intro j Z1 H locs ls hjt hfi hP hD hS hl
            refine lv_iload_n hx hb dX11_modulo_26 rfl (lv_at hl 0 rfl) ?_
            refine lv_aload_n hx hb dX11_modulo_27 rfl (lv_at hl 2 rfl) ?_
            refine va_get (D := D) (ci := 11) (v := .int (iZ (((nn : Nat) : Int)))) (C := RX11) (T := TX11) (N := 14) hx hb hts hin11 hown hK hP 0 rfl rfl 5 (by decide) q_f_RX11_26_LimbSolverModel_n_I (fun _ h9 => h9) rfl dX11_modulo_28 ?_
            refine zr_icmp_ge hx hb 127 ⟨by omega, by omega⟩ ⟨by omega, by omega⟩ dX11_modulo_31 (by decide) (fun h_31 => ?_) (fun h_31 => ?_)
            · exfalso; omega
            · have hxf := hAA.at0 (j := 7 * i + j) (by omega)
              have hd0 := Int.emod_nonneg (((V (7 * i + j)).den : Nat) : Int) (show q9 ≠ 0 by omega)
              have hd1 := Int.emod_lt_of_pos (((V (7 * i + j)).den : Nat) : Int) (show 0 < q9 by omega)
              have hn0 := Int.emod_nonneg (((V (7 * i + j)).num.natAbs : Nat) : Int) (show q9 ≠ 0 by omega)
              have hn1 := Int.emod_lt_of_pos (((V (7 * i + j)).num.natAbs : Nat) : Int) (show 0 < q9 by omega)
              have he0 := Int.emod_nonneg (((((V (7 * i + j)).den : Nat) : Int) % q9) ^ (q9.toNat - 2)) (show q9 ≠ 0 by omega)
              have he1 := Int.emod_lt_of_pos (((((V (7 * i + j)).den : Nat) : Int) % q9) ^ (q9.toNat - 2)) (show 0 < q9 by omega)
              have hmm := pm_mul (a := (((V (7 * i + j)).num.natAbs : Nat) : Int) % q9) (b := ((((V (7 * i + j)).den : Nat) : Int) % q9) ^ (q9.toNat - 2) % q9) hn0 (by omega) he0 (by omega)
              refine lv_iload_n hx hb dX11_modulo_34 rfl (lv_at hl 1 rfl) ?_
              refine lv_iload_n hx hb dX11_modulo_35 rfl (lv_at hl 0 rfl) ?_
              refine zc_Si (As := [.int (iZ (((i : Nat) : Int))), .int (iZ (((j : Nat) : Int)))]) (rest := []) (wr := [(mo, mo_ fg le sg tp bl pr rs (((nn : Nat) : Int)) (dn) (sv) (rk) (tn) (ms) (0)), (fg, aI cI (52200) (F)), (le, aI cI (190) (Ln)), (sg, aI cI (90) (Sg)), (rs, aJ cJ (36) (Z1))]) ⟨hx, hb, hml, hown, hts⟩ (c_place l D cI cJ cE cF cR (i) (j) (by omega) (by omega)) (va_cwS 2 hts gX11_modulo_X11_place rfl rfl rfl (by decide +kernel) ⟨Nat.le_of_ble_eq_true rfl, Nat.le_of_ble_eq_true rfl⟩) hN hK hP hD hS hA [] [0, 1, 2, 3, 4] rfl rfl (by decide) (by decide) (by decide) rfl hl.1 (Nat.le_of_ble_eq_true rfl) dX11_modulo_36 ⟨by decide, by decide⟩ (fun z36 w1 H locs hz36 hp hP hD hS => ?_)
              obtain ⟨hw9, hx0⟩ := hp
              subst hw9
              subst hx0
              have hP := hP.sub (ws' := [(mo, mo_ fg le sg tp bl pr rs (((nn : Nat) : Int)) (dn) (sv) (rk) (tn) (ms) (0)), (fg, aI cI (52200) (F)), (le, aI cI (190) (Ln)), (sg, aI cI (90) (Sg)), (rs, aJ cJ (36) (Z1))]) [0, 1, 2, 3, 4] rfl
              have hD := hD.sub (ws' := [(mo, mo_ fg le sg tp bl pr rs (((nn : Nat) : Int)) (dn) (sv) (rk) (tn) (ms) (0)), (fg, aI cI (52200) (F)), (le, aI cI (190) (Ln)), (sg, aI cI (90) (Sg)), (rs, aJ cJ (36) (Z1))]) [0, 1, 2, 3, 4] (by decide) rfl
              refine lv_istore (lv' := [(4, .int (iZ (((7 * i + j : Nat) : Int)))), (3, .int (iZ (((j : Nat) : Int)))), (2, .int (iZ (((i : Nat) : Int)))), (0, .ref (mo)), (1, .int (iZ (q9)))]) hx hb dX11_modulo_39 hl (by decide) rfl (fun ls hl => ?_)
              refine lv_aload_n hx hb dX11_modulo_41 rfl (lv_at hl 3 rfl) ?_
              refine lv_iconst (v := iZ 2) hx hb dX11_modulo_42 rfl ?_
              refine lv_iload hx hb dX11_modulo_43 (lv_at hl 0 rfl) ?_
              refine zr_imul hx hb dX11_modulo_45 ?_
              refine lv_iconst (v := iZ 1) hx hb dX11_modulo_46 rfl ?_
              refine zr_iadd hx hb dX11_modulo_47 ?_
              refine zr_eqi (((2 * (7 * i + j) + 1 : Nat) : Int)) (by omega) ?_
              refine lv_iload_n hx hb dX11_modulo_48 rfl (lv_at hl 4 rfl) ?_
              refine zc_Vl (As := [.int (iZ (((2 * (7 * i + j) + 1 : Nat) : Int))), .int (iZ (q9))]) (rest := []) (wr := [(sg, aI cI (90) (Sg)), (rs, aJ cJ (36) (Z1))]) ⟨hx, hb, hml, hown, hts⟩ (c_mrest l D cI cJ cE cF cR mo fg le sg tp bl pr rs nn dn sv rk tn ms (0) (2 * (7 * i + j) + 1) q9 ((((V (7 * i + j)).den : Nat) : Int)) F Ln hq1 hq2 (by omega) (hxf.2.2)) (cwV 2 hts gX11_modulo_X11_rest rfl rfl rfl (by decide +kernel) ⟨Nat.le_of_ble_eq_true rfl, Nat.le_of_ble_eq_true rfl⟩) hN hK hP hD hS hA [0, 1, 2] [3, 4] rfl rfl (by decide) (by decide) (by decide) (q0 := 0) (ci := 11) rfl rfl rfl rfl hl.1 (Nat.le_of_ble_eq_true rfl) dX11_modulo_49 ⟨by decide, by decide⟩ (fun z49 w1 H locs hz49 hp hP hD hS => ?_)
              obtain ⟨hw9, hr0⟩ := hp
              subst hw9
              subst hr0
              have hP := hP.sub (ws' := [(mo, mo_ fg le sg tp bl pr rs (((nn : Nat) : Int)) (dn) (sv) (rk) (tn) (ms) (0)), (fg, aI cI (52200) (F)), (le, aI cI (190) (Ln)), (sg, aI cI (90) (Sg)), (rs, aJ cJ (36) (Z1))]) [2, 3, 4, 0, 1] rfl
              have hD := hD.sub (ws' := [(mo, mo_ fg le sg tp bl pr rs (((nn : Nat) : Int)) (dn) (sv) (rk) (tn) (ms) (0)), (fg, aI cI (52200) (F)), (le, aI cI (190) (Ln)), (sg, aI cI (90) (Sg)), (rs, aJ cJ (36) (Z1))]) [2, 3, 4, 0, 1] (by decide) rfl
              refine lv_lstore (lv' := [(5, .long (lZ (((((V (7 * i + j)).den : Nat) : Int)) % q9))), (4, .int (iZ (((7 * i + j : Nat) : Int)))), (3, .int (iZ (((j : Nat) : Int)))), (2, .int (iZ (((i : Nat) : Int)))), (0, .ref (mo)), (1, .int (iZ (q9)))]) hx hb dX11_modulo_52 hl (by decide) rfl (fun ls hl => ?_)
              refine lv_lload hx hb dX11_modulo_54 (lv_at hl 0 rfl) ?_
              refine lv_lconst (v := lZ 0) hx hb dX11_modulo_56 rfl ?_
              refine zr_lcmp_ne hx hb 63 ⟨by omega, by omega⟩ ⟨by omega, by omega⟩ dX11_modulo_57 dX11_modulo_58 (by decide) (fun h_57 => ?_) (fun h_57 => ?_)
              · refine lv_aload_n hx hb dX11_modulo_63 rfl (lv_at hl 4 rfl) ?_
                refine lv_iconst (v := iZ 2) hx hb dX11_modulo_64 rfl ?_
                refine lv_iload hx hb dX11_modulo_65 (lv_at hl 1 rfl) ?_
                refine zr_imul hx hb dX11_modulo_67 ?_
                refine zr_eqi (((2 * (7 * i + j) : Nat) : Int)) (by omega) ?_
                refine lv_iload_n hx hb dX11_modulo_68 rfl (lv_at hl 5 rfl) ?_
                refine zc_Vl (As := [.int (iZ (((2 * (7 * i + j) : Nat) : Int))), .int (iZ (q9))]) (rest := []) (wr := [(sg, aI cI (90) (Sg)), (rs, aJ cJ (36) (Z1))]) ⟨hx, hb, hml, hown, hts⟩ (c_mrest l D cI cJ cE cF cR mo fg le sg tp bl pr rs nn dn sv rk tn ms (0) (2 * (7 * i + j)) q9 ((((V (7 * i + j)).num.natAbs : Nat) : Int)) F Ln hq1 hq2 (by omega) (hxf.2.1)) (cwV 2 hts gX11_modulo_X11_rest rfl rfl rfl (by decide +kernel) ⟨Nat.le_of_ble_eq_true rfl, Nat.le_of_ble_eq_true rfl⟩) hN hK hP hD hS hA [0, 1, 2] [3, 4] rfl rfl (by decide) (by decide) (by decide) (q0 := 0) (ci := 11) rfl rfl rfl rfl hl.1 (Nat.le_of_ble_eq_true rfl) dX11_modulo_69 ⟨by decide, by decide⟩ (fun z69 w1 H locs hz69 hp hP hD hS => ?_)
                obtain ⟨hw9, hr0⟩ := hp
                subst hw9
                subst hr0
                have hP := hP.sub (ws' := [(mo, mo_ fg le sg tp bl pr rs (((nn : Nat) : Int)) (dn) (sv) (rk) (tn) (ms) (0)), (fg, aI cI (52200) (F)), (le, aI cI (190) (Ln)), (sg, aI cI (90) (Sg)), (rs, aJ cJ (36) (Z1))]) [2, 3, 4, 0, 1] rfl
                have hD := hD.sub (ws' := [(mo, mo_ fg le sg tp bl pr rs (((nn : Nat) : Int)) (dn) (sv) (rk) (tn) (ms) (0)), (fg, aI cI (52200) (F)), (le, aI cI (190) (Ln)), (sg, aI cI (90) (Sg)), (rs, aJ cJ (36) (Z1))]) [2, 3, 4, 0, 1] (by decide) rfl
                refine lv_lload hx hb dX11_modulo_72 (lv_at hl 0 rfl) ?_
                refine lv_iload_n hx hb dX11_modulo_74 rfl (lv_at hl 5 rfl) ?_
                refine lv_iconst (v := iZ 2) hx hb dX11_modulo_75 rfl ?_
                refine zr_isub hx hb dX11_modulo_76 ?_
                refine zr_eqi (((q9.toNat - 2 : Nat) : Int)) (by omega) ?_
                refine lv_iload_n hx hb dX11_modulo_77 rfl (lv_at hl 5 rfl) ?_
                refine zc_Sl (As := [.long (lZ (((((V (7 * i + j)).den : Nat) : Int)) % q9)), .int (iZ (((q9.toNat - 2 : Nat) : Int))), .int (iZ (q9))]) (rest := [.long (lZ (((((V (7 * i + j)).num.natAbs : Nat) : Int)) % q9))]) (wr := [(mo, mo_ fg le sg tp bl pr rs (((nn : Nat) : Int)) (dn) (sv) (rk) (tn) (ms) (0)), (fg, aI cI (52200) (F)), (le, aI cI (190) (Ln)), (sg, aI cI (90) (Sg)), (rs, aJ cJ (36) (Z1))]) ⟨hx, hb, hml, hown, hts⟩ (c_mpower l D cI cJ cE cF cR ((((V (7 * i + j)).den : Nat) : Int) % q9) q9 (q9.toNat - 2) hq1 hq2 ⟨by omega, by omega⟩ (by omega)) (va_cwS 3 hts gX11_modulo_X11_power rfl rfl rfl (by decide +kernel) ⟨Nat.le_of_ble_eq_true rfl, Nat.le_of_ble_eq_true rfl⟩) hN hK hP hD hS hA [] [0, 1, 2, 3, 4] rfl rfl (by decide) (by decide) (by decide) rfl hl.1 (Nat.le_of_ble_eq_true rfl) dX11_modulo_78 ⟨by decide, by decide⟩ (fun z78 w1 H locs hz78 hp hP hD hS => ?_)
                obtain ⟨hw9, hr0⟩ := hp
                subst hw9
                subst hr0
                have hP := hP.sub (ws' := [(mo, mo_ fg le sg tp bl pr rs (((nn : Nat) : Int)) (dn) (sv) (rk) (tn) (ms) (0)), (fg, aI cI (52200) (F)), (le, aI cI (190) (Ln)), (sg, aI cI (90) (Sg)), (rs, aJ cJ (36) (Z1))]) [0, 1, 2, 3, 4] rfl
                have hD := hD.sub (ws' := [(mo, mo_ fg le sg tp bl pr rs (((nn : Nat) : Int)) (dn) (sv) (rk) (tn) (ms) (0)), (fg, aI cI (52200) (F)), (le, aI cI (190) (Ln)), (sg, aI cI (90) (Sg)), (rs, aJ cJ (36) (Z1))]) [0, 1, 2, 3, 4] (by decide) rfl
                refine zr_lmul hx hb dX11_modulo_81 ?_
                refine lv_iload_n hx hb dX11_modulo_82 rfl (lv_at hl 5 rfl) ?_
                refine zr_i2l hx hb ⟨by omega, by omega⟩ dX11_modulo_83 ?_
                refine zr_lrem hx hb ⟨by omega, by omega⟩ ⟨by omega, by omega⟩ (by omega) (by omega) dX11_modulo_84 ?_
                refine zr_topl (fun v7 hv7 => ?_)
                refine lv_lstore (lv' := [(7, .long (lZ (v7))), (5, .long (lZ (((((V (7 * i + j)).den : Nat) : Int)) % q9))), (4, .int (iZ (((7 * i + j : Nat) : Int)))), (3, .int (iZ (((j : Nat) : Int)))), (2, .int (iZ (((i : Nat) : Int)))), (0, .ref (mo)), (1, .int (iZ (q9)))]) hx hb dX11_modulo_85 hl (by decide) rfl (fun ls hl => ?_)
                have hv70 : 0 ≤ v7 ∧ v7 < q9 := by rw [hv7]; exact ⟨Int.emod_nonneg _ (by omega), Int.emod_lt_of_pos _ (by omega)⟩
                refine lv_aload_n hx hb dX11_modulo_87 rfl (lv_at hl 5 rfl) ?_
                refine va_get (D := D) (ci := 11) (v := .ref (rs)) (C := RX11) (T := TX11) (N := 14) hx hb hts hin11 hown hK hP 0 rfl rfl 13 (by decide) q_f_RX11_33_LimbSolverModel_residue_J (fun _ h9 => h9) rfl dX11_modulo_88 ?_
                refine lv_bipush (v := iZ 6) hx hb dX11_modulo_91 (by decide) ?_
                refine lv_iload_n hx hb dX11_modulo_93 rfl (lv_at hl 4 rfl) ?_
                refine zr_imul hx hb dX11_modulo_94 ?_
                refine lv_iload_n hx hb dX11_modulo_95 rfl (lv_at hl 3 rfl) ?_
                refine zr_iadd hx hb dX11_modulo_96 ?_
                refine lv_aload_n hx hb dX11_modulo_97 rfl (lv_at hl 5 rfl) ?_
                refine va_get (D := D) (ci := 11) (v := .ref (sg)) (C := RX11) (T := TX11) (N := 14) hx hb hts hin11 hown hK hP 0 rfl rfl 2 (by decide) q_f_RX11_17_LimbSolverModel_sign_I (fun _ h9 => h9) rfl dX11_modulo_98 ?_
                refine lv_iload hx hb dX11_modulo_101 (lv_at hl 2 rfl) ?_
                refine zr_iald hx hb hK hP 3 0 rfl rfl (7 * i + j) (by omega) (by omega) (by omega) dX11_modulo_103 ?_
                refine zr_eqi ((V (7 * i + j)).num.sign) hxf.1 ?_
                refine zr_if_ge hx hb 118 ⟨by rcases md_sg (x := V (7 * i + j)) with q | q | q <;> rw [q] <;> decide, by rcases md_sg (x := V (7 * i + j)) with q | q | q <;> rw [q] <;> decide⟩ dX11_modulo_104 (by decide) (fun h_104 => ?_) (fun h_104 => ?_)
                · refine lv_lload hx hb dX11_modulo_118 (lv_at hl 0 rfl) ?_
                  refine zr_eql (pm_e V q9 (7 * i + j)) ((pm_e_m (by omega) hv7).2 (by omega)) ?_
                  refine zr_last hx hb hK hP hD hS 4 1 rfl rfl (6 * i + j) (by omega) (by omega) (by omega) dX11_modulo_120 (fun H locs hP hD hS => ?_)
                  have hP : va_P D vwCl [(mo, mo_ fg le sg tp bl pr rs (((nn : Nat) : Int)) (dn) (sv) (rk) (tn) (ms) (0)), (fg, aI cI (52200) (F)), (le, aI cI (190) (Ln)), (sg, aI cI (90) (Sg)), (rs, aJ cJ (36) (zu (Z1) (6 * i + j) (pm_e V q9 (7 * i + j))))] H := hP
                  have hD : va_D A [(mo, mo_ fg le sg tp bl pr rs (((nn : Nat) : Int)) (dn) (sv) (rk) (tn) (ms) (0)), (fg, aI cI (52200) (F)), (le, aI cI (190) (Ln)), (sg, aI cI (90) (Sg)), (rs, aJ cJ (36) (zu (Z1) (6 * i + j) (pm_e V q9 (7 * i + j))))] := hD
                  refine lv_iinc (v := iZ (((j + 1 : Nat) : Int))) (lv' := [(3, .int (iZ (((j + 1 : Nat) : Int)))), (7, .long (lZ (v7))), (5, .long (lZ (((((V (7 * i + j)).den : Nat) : Int)) % q9))), (4, .int (iZ (((7 * i + j : Nat) : Int)))), (2, .int (iZ (((i : Nat) : Int)))), (0, .ref (mo)), (1, .int (iZ (q9)))]) hx hb dX11_modulo_121 hl (k := 3) rfl (by rw [show ((j + 1 : Nat) : Int) = ((j : Nat) : Int) + 1 by omega]; exact iZ_add _ _) (by decide) rfl (fun ls hl => ?_)
                  refine lv_goto (tgt := 26) hx hb dX11_modulo_124 (by decide) ?_
                  exact ih (j + 1) _ H locs ls (by omega) (fun a b h1 h2 h3 => by by_cases w : 6 * a + b = 6 * i + j; (obtain rfl : a = i := by omega); (obtain rfl : b = j := by omega); (rw [zu_s]; exact ⟨rfl, h_57⟩); (rw [zu_n _ _ w]; exact hfi a b h1 h2 (by omega))) hP hD hS (lv_sub hl [0, 4, 5, 6] rfl)
                · refine lv_iload_n hx hb dX11_modulo_107 rfl (lv_at hl 6 rfl) ?_
                  refine zr_i2l hx hb ⟨by omega, by omega⟩ dX11_modulo_108 ?_
                  refine lv_lload hx hb dX11_modulo_109 (lv_at hl 0 rfl) ?_
                  refine zr_lsub hx hb dX11_modulo_111 ?_
                  refine lv_iload_n hx hb dX11_modulo_112 rfl (lv_at hl 6 rfl) ?_
                  refine zr_i2l hx hb ⟨by omega, by omega⟩ dX11_modulo_113 ?_
                  refine zr_lrem hx hb ⟨by omega, by omega⟩ ⟨by omega, by omega⟩ (by omega) (by omega) dX11_modulo_114 ?_
                  refine zr_eql (pm_e V q9 (7 * i + j)) ((pm_e_m (by omega) hv7).1 (by omega)) ?_
                  refine lv_goto (tgt := 120) hx hb dX11_modulo_115 (by decide) ?_
                  refine zr_last hx hb hK hP hD hS 4 1 rfl rfl (6 * i + j) (by omega) (by omega) (by omega) dX11_modulo_120 (fun H locs hP hD hS => ?_)
                  have hP : va_P D vwCl [(mo, mo_ fg le sg tp bl pr rs (((nn : Nat) : Int)) (dn) (sv) (rk) (tn) (ms) (0)), (fg, aI cI (52200) (F)), (le, aI cI (190) (Ln)), (sg, aI cI (90) (Sg)), (rs, aJ cJ (36) (zu (Z1) (6 * i + j) (pm_e V q9 (7 * i + j))))] H := hP
                  have hD : va_D A [(mo, mo_ fg le sg tp bl pr rs (((nn : Nat) : Int)) (dn) (sv) (rk) (tn) (ms) (0)), (fg, aI cI (52200) (F)), (le, aI cI (190) (Ln)), (sg, aI cI (90) (Sg)), (rs, aJ cJ (36) (zu (Z1) (6 * i + j) (pm_e V q9 (7 * i + j))))] := hD
                  refine lv_iinc (v := iZ (((j + 1 : Nat) : Int))) (lv' := [(3, .int (iZ (((j + 1 : Nat) : Int)))), (7, .long (lZ (v7))), (5, .long (lZ (((((V (7 * i + j)).den : Nat) : Int)) % q9))), (4, .int (iZ (((7 * i + j : Nat) : Int)))), (2, .int (iZ (((i : Nat) : Int)))), (0, .ref (mo)), (1, .int (iZ (q9)))]) hx hb dX11_modulo_121 hl (k := 3) rfl (by rw [show ((j + 1 : Nat) : Int) = ((j : Nat) : Int) + 1 by omega]; exact iZ_add _ _) (by decide) rfl (fun ls hl => ?_)
                  refine lv_goto (tgt := 26) hx hb dX11_modulo_124 (by decide) ?_
                  exact ih (j + 1) _ H locs ls (by omega) (fun a b h1 h2 h3 => by by_cases w : 6 * a + b = 6 * i + j; (obtain rfl : a = i := by omega); (obtain rfl : b = j := by omega); (rw [zu_s]; exact ⟨rfl, h_57⟩); (rw [zu_n _ _ w]; exact hfi a b h1 h2 (by omega))) hP hD hS (lv_sub hl [0, 4, 5, 6] rfl)
              · refine lv_iconst (v := iZ (-1)) hx hb dX11_modulo_61 rfl ?_
                exact zr_iret hQ hx hb hr hlk dX11_modulo_62 hK hP hD hS (by omega) (by omega) ⟨by omega, by omega⟩ (⟨Z1, rfl, Or.inr (Or.inl ⟨hpr, ⟨i, j, by omega, by omega, h_57⟩, rfl⟩)⟩)
        refine lv_iload_n hx hb dX11_modulo_16 rfl (lv_at hl 0 rfl) ?_
        refine lv_aload_n hx hb dX11_modulo_17 rfl (lv_at hl 1 rfl) ?_
        refine va_get (D := D) (ci := 11) (v := .int (iZ (((nn : Nat) : Int)))) (C := RX11) (T := TX11) (N := 14) hx hb hts hin11 hown hK hP 0 rfl rfl 5 (by decide) q_f_RX11_26_LimbSolverModel_n_I (fun _ h9 => h9) rfl dX11_modulo_18 ?_
        refine zr_icmp_ge hx hb 133 ⟨by omega, by omega⟩ ⟨by omega, by omega⟩ dX11_modulo_21 (by decide) (fun h_21 => ?_) (fun h_21 => ?_)
        · exfalso; omega
        · refine lv_iconst (v := iZ 0) hx hb dX11_modulo_24 rfl ?_
          refine lv_istore_n (lv' := [(3, .int (iZ (0))), (2, .int (iZ (((i : Nat) : Int)))), (0, .ref (mo)), (1, .int (iZ (q9)))]) hx hb dX11_modulo_25 rfl hl (by decide) rfl (fun ls hl => ?_)
          exact jlp nn 0 Z1 H locs ls (by omega) (fun a b h1 h2 h3 => hfi a b h1 h2 (by omega)) hP hD hS (lv_sub hl [0, 1, 2, 3] rfl)
    refine lv_aload_n hx hb dX11_modulo_0 rfl (lv_at hl 0 rfl) ?_
    refine lv_iconst (v := iZ 0) hx hb dX11_modulo_1 rfl ?_
    refine va_put (D := D) (ci := 11) (v := .int (iZ (0))) (ty := tyX11 12) (C := RX11) (T := TX11) (N := 14) hx hb hts hin11 tyX11 tyX11_ok nmX11 hown hK hP hD hS 0 rfl rfl 12 (by decide) q_f_RX11_40_LimbSolverModel_thrown_I (fun _ h9 => h9) rfl (tyX11_ok 12 (by decide)) rfl rfl (Nat.le_of_ble_eq_true rfl) dX11_modulo_2 (fun H locs hP hD hS => ?_)
    have hP : va_P D vwCl [(mo, mo_ fg le sg tp bl pr rs (((nn : Nat) : Int)) (dn) (sv) (rk) (tn) (ms) (0)), (fg, aI cI (52200) (F)), (le, aI cI (190) (Ln)), (sg, aI cI (90) (Sg)), (rs, aJ cJ (36) (RS))] H := hP
    have hD : va_D A [(mo, mo_ fg le sg tp bl pr rs (((nn : Nat) : Int)) (dn) (sv) (rk) (tn) (ms) (0)), (fg, aI cI (52200) (F)), (le, aI cI (190) (Ln)), (sg, aI cI (90) (Sg)), (rs, aJ cJ (36) (RS))] := hD
    refine lv_iload_n hx hb dX11_modulo_5 rfl (lv_at hl 1 rfl) ?_
    refine zc_Si (As := [.int (iZ (q9))]) (rest := []) (wr := [(mo, mo_ fg le sg tp bl pr rs (((nn : Nat) : Int)) (dn) (sv) (rk) (tn) (ms) (0)), (fg, aI cI (52200) (F)), (le, aI cI (190) (Ln)), (sg, aI cI (90) (Sg)), (rs, aJ cJ (36) (RS))]) ⟨hx, hb, hml, hown, hts⟩ (c_isPrime l D cI cJ cE cF cR q9 hq0) (va_cwS 1 hts gX11_modulo_X11_isPrime rfl rfl rfl (by decide +kernel) ⟨Nat.le_of_ble_eq_true rfl, Nat.le_of_ble_eq_true rfl⟩) hN hK hP hD hS hA [] [0, 1, 2, 3, 4] rfl rfl (by decide) (by decide) (by decide) rfl hl.1 (Nat.le_of_ble_eq_true rfl) dX11_modulo_6 ⟨by decide, by decide⟩ (fun qp w1 H locs hz6 hp hP hD hS => ?_)
    obtain ⟨hw9, hq⟩ := hp
    subst hw9
    have hP := hP.sub (ws' := [(mo, mo_ fg le sg tp bl pr rs (((nn : Nat) : Int)) (dn) (sv) (rk) (tn) (ms) (0)), (fg, aI cI (52200) (F)), (le, aI cI (190) (Ln)), (sg, aI cI (90) (Sg)), (rs, aJ cJ (36) (RS))]) [0, 1, 2, 3, 4] rfl
    have hD := hD.sub (ws' := [(mo, mo_ fg le sg tp bl pr rs (((nn : Nat) : Int)) (dn) (sv) (rk) (tn) (ms) (0)), (fg, aI cI (52200) (F)), (le, aI cI (190) (Ln)), (sg, aI cI (90) (Sg)), (rs, aJ cJ (36) (RS))]) [0, 1, 2, 3, 4] (by decide) rfl
    refine zr_if_ne hx hb 14 (by rcases hq with ⟨_, q⟩ | ⟨_, q⟩ <;> rw [q] <;> decide) dX11_modulo_9 (by decide) (fun h_9 => ?_) (fun h_9 => ?_)
    · refine lv_iconst (v := iZ 0) hx hb dX11_modulo_14 rfl ?_
      refine lv_istore_n (lv' := [(2, .int (iZ (0))), (0, .ref (mo)), (1, .int (iZ (q9)))]) hx hb dX11_modulo_15 rfl hl (by decide) rfl (fun ls hl => ?_)
      exact flp nn 0 RS H locs ls (by omega) (fun a b _ _ h3 => absurd h3 (Nat.not_lt_zero a)) hP hD hS (lv_sub hl [0, 1, 2] rfl)
    · exfalso; rcases hq with ⟨_, q⟩ | ⟨q, _⟩; omega; exact q hpr
  · refine lv_aload_n hx hb dX11_modulo_0 rfl (lv_at hl 0 rfl) ?_
    refine lv_iconst (v := iZ 0) hx hb dX11_modulo_1 rfl ?_
    refine va_put (D := D) (ci := 11) (v := .int (iZ (0))) (ty := tyX11 12) (C := RX11) (T := TX11) (N := 14) hx hb hts hin11 tyX11 tyX11_ok nmX11 hown hK hP hD hS 0 rfl rfl 12 (by decide) q_f_RX11_40_LimbSolverModel_thrown_I (fun _ h9 => h9) rfl (tyX11_ok 12 (by decide)) rfl rfl (Nat.le_of_ble_eq_true rfl) dX11_modulo_2 (fun H locs hP hD hS => ?_)
    have hP : va_P D vwCl [(mo, mo_ fg le sg tp bl pr rs (((nn : Nat) : Int)) (dn) (sv) (rk) (tn) (ms) (0)), (fg, aI cI (52200) (F)), (le, aI cI (190) (Ln)), (sg, aI cI (90) (Sg)), (rs, aJ cJ (36) (RS))] H := hP
    have hD : va_D A [(mo, mo_ fg le sg tp bl pr rs (((nn : Nat) : Int)) (dn) (sv) (rk) (tn) (ms) (0)), (fg, aI cI (52200) (F)), (le, aI cI (190) (Ln)), (sg, aI cI (90) (Sg)), (rs, aJ cJ (36) (RS))] := hD
    refine lv_iload_n hx hb dX11_modulo_5 rfl (lv_at hl 1 rfl) ?_
    refine zc_Si (As := [.int (iZ (q9))]) (rest := []) (wr := [(mo, mo_ fg le sg tp bl pr rs (((nn : Nat) : Int)) (dn) (sv) (rk) (tn) (ms) (0)), (fg, aI cI (52200) (F)), (le, aI cI (190) (Ln)), (sg, aI cI (90) (Sg)), (rs, aJ cJ (36) (RS))]) ⟨hx, hb, hml, hown, hts⟩ (c_isPrime l D cI cJ cE cF cR q9 hq0) (va_cwS 1 hts gX11_modulo_X11_isPrime rfl rfl rfl (by decide +kernel) ⟨Nat.le_of_ble_eq_true rfl, Nat.le_of_ble_eq_true rfl⟩) hN hK hP hD hS hA [] [0, 1, 2, 3, 4] rfl rfl (by decide) (by decide) (by decide) rfl hl.1 (Nat.le_of_ble_eq_true rfl) dX11_modulo_6 ⟨by decide, by decide⟩ (fun qp w1 H locs hz6 hp hP hD hS => ?_)
    obtain ⟨hw9, hq⟩ := hp
    subst hw9
    have hP := hP.sub (ws' := [(mo, mo_ fg le sg tp bl pr rs (((nn : Nat) : Int)) (dn) (sv) (rk) (tn) (ms) (0)), (fg, aI cI (52200) (F)), (le, aI cI (190) (Ln)), (sg, aI cI (90) (Sg)), (rs, aJ cJ (36) (RS))]) [0, 1, 2, 3, 4] rfl
    have hD := hD.sub (ws' := [(mo, mo_ fg le sg tp bl pr rs (((nn : Nat) : Int)) (dn) (sv) (rk) (tn) (ms) (0)), (fg, aI cI (52200) (F)), (le, aI cI (190) (Ln)), (sg, aI cI (90) (Sg)), (rs, aJ cJ (36) (RS))]) [0, 1, 2, 3, 4] (by decide) rfl
    refine zr_if_ne hx hb 14 (by rcases hq with ⟨_, q⟩ | ⟨_, q⟩ <;> rw [q] <;> decide) dX11_modulo_9 (by decide) (fun h_9 => ?_) (fun h_9 => ?_)
    · exfalso; rcases hq with ⟨q, _⟩ | ⟨_, q⟩; exact hpr q; omega
    · refine lv_iconst (v := iZ (-1)) hx hb dX11_modulo_12 rfl ?_
      exact zr_iret hQ hx hb hr hlk dX11_modulo_13 hK hP hD hS (by omega) (by omega) ⟨by omega, by omega⟩ (⟨RS, rfl, Or.inl ⟨hpr, rfl⟩⟩)
