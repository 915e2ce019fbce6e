
section ZR11
variable {p : Program} {l : Launch} {e : Env} {R : Room} {s : State} {m : MethodId} {args : Array Value} {below : List Frame} {meth : Method} {c : Code} {H : Heap} {locs : List Loc} {cells slots : Nat} {Q : State → Prop} {cc : ByteArray} {pc : Nat} {ls : Array Slot} {rest : List Value}
theorem zr_aast {D : va_G} {cl : List vw_C} {tys : List (ClassId × FieldType)} {w : va_W} {a n v : Nat} {cA : ClassId} {r : vw_C} {vs : List Value} {d : Nat → Option Nat} {A : Nat → Prop} {H0 : Heap} (hx : p.tables.exec = Jvm.exec) (hb : c.code = cc) (hK : va_K D cl tys s) (hP : va_P D cl w H) (hD : va_D A w) (hS : va_S A H0 H locs) (q0 t0 qk ci : Nat) (ha : w[q0]? = some (a, aR cA n d)) (ht : tys[t0]? = some (cA, .object r.1)) (hv : w[qk]? = some (v, .inr (ci, vs))) (hc : cl[ci]? = some r) {z : Int} (k : Nat) (hz : z = (k : Int)) (hk : k < n) (hn : n < 2147483648) (hd : decode cc pc = .ok (.aastore, 1)) (kk : ∀ (H1 : Heap) (locs1 : List Loc), va_P D cl (w.set q0 (a, aR cA n (zu d k (some v)))) H1 → va_D A (w.set q0 (a, aR cA n (zu d k (some v)))) → va_S A H0 H1 locs1 → W p l e R s m args below meth c H1 locs1 cells slots Q (F0 m (pc + 1) ls rest)) : W p l e R s m args below meth c H locs cells slots Q (F0 m pc ls (.ref v :: .int (iZ z) :: .ref a :: rest)) := by
  subst hz
  refine va_astq hx hb hK hP hD hS q0 t0 qk ci ha ht hv hc (iZ_in hk hn) hd ?_
  rw [iZ_clamp (by omega)]
  exact kk
end ZR11

theorem pr_lcm {s d : Nat} (hd : 0 < d) : ((d : Nat) : Int) / ((Int.gcd ((d : Nat) : Int) ((s : Nat) : Int) : Nat) : Int) * ((s : Nat) : Int) = ((Nat.lcm s d : Nat) : Int) := by
  have g : Int.gcd ((d : Nat) : Int) ((s : Nat) : Int) = Nat.gcd d s := rfl
  rw [g]
  have e : d / Nat.gcd d s * s = Nat.lcm s d := by
    unfold Nat.lcm
    rw [Nat.gcd_comm s d, Nat.mul_comm s d]
    exact (Nat.mul_div_right_comm (Nat.gcd_dvd_left d s) s).symm
  rw [← e]
  rfl
theorem pe_sc_b {V : Nat → Rat} {n i m : Nat} (hT : pe_T V n) (hi : i < n) (hn : n ≤ 6) (hm : m ≤ n + 1) : ((pe_sc V i m : Nat) : Int) < bg_p 8 ∧ (0 : Int) < ((pe_sc V i m : Nat) : Int) := by
  have h1 := pe_sc_le hT hi m hm
  have h2 := pe_sc_pos V i m
  have h3 : 2147483648 ^ m ≤ 2147483648 ^ 7 := Nat.pow_le_pow_right (by decide) (by omega)
  have h4 : bg_p 8 = ((2147483648 ^ 8 : Nat) : Int) := by show (2147483648 : Int) ^ 8 = _; simp
  have h5 : 2147483648 ^ 7 < 2147483648 ^ 8 := by decide
  rw [h4]
  exact ⟨Int.ofNat_lt.mpr (by omega), by omega⟩
theorem pe_T2 {V : Nat → Rat} {n i j : Nat} (hT : pe_T V n) (hi : i < n) (hj : j ≤ n) : ((V (7 * i + j)).den : Int) < bg_p 2 ∧ ((V (7 * i + j)).num.natAbs : Int) < bg_p 2 ∧ (0 : Int) < ((V (7 * i + j)).den : Int) ∧ ((V (7 * i + j)).den : Int) ≤ 2147483648 ∧ ((V (7 * i + j)).num.natAbs : Int) ≤ 2147483648 := by
  have h1 := hT i j hi hj
  have h2 := (V (7 * i + j)).den_pos
  rw [show bg_p 2 = 4611686018427387904 from rfl]
  exact ⟨by omega, by omega, by omega, by omega, by omega⟩
theorem pe_w_p {V : Nat → Rat} {n i j : Nat} (hj : j ≤ n) : ((pe_w V n i j).natAbs : Int) = ((pe_sc V i (n + 1) : Nat) : Int) / ((V (7 * i + j)).den : Int) * ((V (7 * i + j)).num.natAbs : Int) ∧ (pe_w V n i j).sign = (V (7 * i + j)).num.sign := by
  rw [pe_w_in hj]
  have hp : 0 < pe_sc V i (n + 1) / (V (7 * i + j)).den := Nat.div_pos (Nat.le_of_dvd (pe_sc_pos V i (n + 1)) (pe_sc_dvd V i (n + 1) j (by omega))) (V (7 * i + j)).den_pos
  refine ⟨?_, ?_⟩
  · rw [pr_nm, Int.natAbs_natCast, Int.mul_comm]
    rfl
  · rw [Int.sign_mul, Int.sign_eq_one_of_pos (a := ((pe_sc V i (n + 1) / (V (7 * i + j)).den : Nat) : Int)) (by omega), Int.mul_one]
set_option maxHeartbeats 4000000 in
set_option maxRecDepth 100000 in
/-- Arithmetic.scaleRow -/
theorem p_scaleRow (l : Launch) (D : va_G) (cI cJ cE cF cR : ClassId) (NP : Nat) (ad : Nat → Nat) (G : Nat → va_E) (n i ar9 sc9 rs eb sd : Nat) (V : Nat → Rat) (hQ9 : pEq cJ ad G n V) (hA0 : pAr cI ad G) (hsc0 : pHas cI ad G sc9 rs) (har9 : G ar9 = aR cE (7) (fun j => some (ad (eb + sd * j)))) (hold0 : ∀ j9 : Nat, j9 ≤ n → pEh cI ad G (eb + sd * j9) 46) (hT : pe_T V n) (hi : i < n) (hn : n ≤ 6) (hrs : 9 ≤ rs ∧ rs ≤ 1000) (hl1 : 33 ≤ sc9 ∧ sc9 + 1 < NP) (hl2 : 33 ≤ ar9 ∧ ar9 < NP ∧ (ar9 < sc9 ∨ sc9 + 1 < ar9)) (hsp : ∀ j9 : Nat, j9 ≤ n → 33 ≤ eb + sd * j9 ∧ eb + sd * j9 + 2 < NP ∧ (eb + sd * j9 + 2 < sc9 ∨ sc9 + 1 < eb + sd * j9) ∧ (ar9 < eb + sd * j9 ∨ eb + sd * j9 + 2 < ar9)) (hstr : ∀ j9 k9 : Nat, j9 ≠ k9 → eb + sd * j9 + 2 < eb + sd * k9 ∨ eb + sd * k9 + 2 < eb + sd * j9) : Cv l D (zty cI cJ cE cF cR) yX0_scaleRow wsX0_scaleRow (zRm 4 150) 0 0 [.ref (ad 6), .ref (ad 2), .int (iZ (((i : Nat) : Int))), .ref (ad ar9), .ref (ad sc9)] (pw NP ad G) (fun w1 => ∃ G1 : Nat → va_E, w1 = pw NP ad G1 ∧ pAr cI ad G1 ∧ pWh cI ad G1 sc9 rs ((pe_sc V i (n + 1) : Nat) : Int) ∧ (∀ j9 : Nat, j9 ≤ n → pEn cI ad G1 (eb + sd * j9) 46 (pe_w V n i j9)) ∧ (∀ i9 : Nat, i9 < 7 ∨ 32 < i9 → i9 ≠ sc9 → i9 ≠ sc9 + 1 → (∀ j9 : Nat, j9 ≤ n → i9 < eb + sd * j9 ∨ eb + sd * j9 + 2 < i9) → G1 i9 = G i9)) := by
  unfold Cv
  refine zs (Qc := zQv D _ _) (cc := cX0_scaleRow) (maxL := 9) (ret := none) (by decide) rfl (Nat.le_of_ble_eq_true rfl) ?_
  intro zp ze s zm below meth zc ls A args Q hQ hx hb hr hts hown hlk hml hnm hN hA hK hP hD hS hl
  have hin4 : ∀ w ∈ wsX40, w ∈ wsX0_scaleRow := by decide +kernel
  have q_initialized_RX10 := hts (.initialized RX10) (by decide +kernel)
  have q_static_yX10_signOf := hts (.static yX10_signOf) (by decide +kernel)
  have hin3 : ∀ w ∈ wsX30, w ∈ wsX0_scaleRow := by decide +kernel
  have q_f_RX0_36_Arithmetic_part_LWhole := hts (.fieldLink RX0 36 "LimbSolver$Arithmetic" "part" "LLimbSolver$Whole;") (by decide +kernel)
  have hin0 : ∀ w ∈ wsX00, w ∈ wsX0_scaleRow := by decide +kernel
  have q_f_RX0_12_Arithmetic_division_LDivision := hts (.fieldLink RX0 12 "LimbSolver$Arithmetic" "division" "LLimbSolver$Division;") (by decide +kernel)
  have q_f_RX0_39_Arithmetic_product_LWhole := hts (.fieldLink RX0 39 "LimbSolver$Arithmetic" "product" "LLimbSolver$Whole;") (by decide +kernel)
  have q_f_RX0_32_Arithmetic_rest_LWhole := hts (.fieldLink RX0 32 "LimbSolver$Arithmetic" "rest" "LLimbSolver$Whole;") (by decide +kernel)
  have q_methodLink_RX0_120_Lib_MathLoose_abs_long_x := hts (.methodLink RX0 120 Lib.MathLoose.abs_long.x) (by decide +kernel)
  have q_static_Lib_MathLoose_abs_long_x := hts (.static Lib.MathLoose.abs_long.x) (by decide +kernel)
  have q_initialized_java_lang_Math := hts (.initialized "java/lang/Math") (by decide +kernel)
  have q_code_Lib_MathLoose_abs_long_x_Lib_MathLoose_abs_lo := hts (.code Lib.MathLoose.abs_long.x Lib.MathLoose.abs_long.code 2 (some .long)) (by decide +kernel)
  have q_f_RX0_23_Arithmetic_euclid_LEuclid := hts (.fieldLink RX0 23 "LimbSolver$Arithmetic" "euclid" "LLimbSolver$Euclid;") (by decide +kernel)
  have hl : lv_has ls 9 [(0, .ref (ad 6)), (1, .ref (ad 2)), (2, .int (iZ (((i : Nat) : Int)))), (3, .ref (ad ar9)), (4, .ref (ad sc9))] := hl
  obtain ⟨cs0, gs0, hcs0, hgs0⟩ := id hsc0
  have lp2 : ∀ (t : Nat) (j : Nat) (G2 : Nat → va_E) (H : Heap) (locs : List Loc) (ls : Array Slot), (j + t = n + 1) → (pAr cI ad G2) → (pWh cI ad G2 sc9 rs ((pe_sc V i (n + 1) : Nat) : Int)) → (∀ j9 : Nat, j9 < j → pEn cI ad G2 (eb + sd * j9) 46 (pe_w V n i j9)) → (∀ j9 : Nat, j ≤ j9 → j9 ≤ n → pEh cI ad G2 (eb + sd * j9) 46) → (∀ i9 : Nat, i9 < 7 ∨ 32 < i9 → i9 ≠ sc9 → i9 ≠ sc9 + 1 → (∀ j9 : Nat, j9 ≤ n → i9 < eb + sd * j9 ∨ eb + sd * j9 + 2 < i9) → G2 i9 = G i9) →  va_P D vwCl (pw NP ad G2) H → va_D A (pw NP ad G2) → va_S A s.heap H locs → lv_has ls 9 [(5, .int (iZ (((j : Nat) : Int)))), (0, .ref (ad 6)), (1, .ref (ad 2)), (2, .int (iZ (((i : Nat) : Int)))), (3, .ref (ad ar9)), (4, .ref (ad sc9))] → W zp l ze (zRm 4 150) s zm args below meth zc H locs 0 0 Q (F0 zm 84 ls []) := by
    intro t
    induction t with
    | zero =>
      intro j G2 H locs ls hjt hA2 hs2 hnew hold hof hP hD hS hl
      refine lv_iload hx hb dX0_scaleRow_84 (lv_at hl 0 rfl) ?_
      refine lv_aload_n hx hb dX0_scaleRow_86 rfl (lv_at hl 2 rfl) ?_
      refine va_getN (D := D) (ci := 4) (v := .int (iZ (((n : Nat) : Int)))) (C := RX4) (T := TX4) (N := 3) hx hb hts hin4 hown hK hP (2) (pw_at (by omega) ((hof (2) (by omega) (by omega) (by omega) (fun j9 q9 => by have := hsp j9 q9; omega)).trans hQ9.1)) rfl 2 (by decide) (hN.F 3 rfl) (fun _ h9 => h9) rfl dX0_scaleRow_87 ?_
      refine zr_icmp_gt hx hb 194 ⟨by omega, by omega⟩ ⟨by omega, by omega⟩ dX0_scaleRow_90 (by decide) (fun h_90 => ?_) (fun h_90 => ?_)
      · exact zr_vret hQ hx hb hr hlk dX0_scaleRow_194 hK hP hD hS (by omega) (by omega) (⟨G2, rfl, hA2, hs2, fun j9 h1 => hnew j9 (by omega), hof⟩)
      · exfalso; omega
    | succ t ih =>
      intro j G2 H locs ls hjt hA2 hs2 hnew hold hof hP hD hS hl
      have ih2 := ih
      refine lv_iload hx hb dX0_scaleRow_84 (lv_at hl 0 rfl) ?_
      refine lv_aload_n hx hb dX0_scaleRow_86 rfl (lv_at hl 2 rfl) ?_
      refine va_getN (D := D) (ci := 4) (v := .int (iZ (((n : Nat) : Int)))) (C := RX4) (T := TX4) (N := 3) hx hb hts hin4 hown hK hP (2) (pw_at (by omega) ((hof (2) (by omega) (by omega) (by omega) (fun j9 q9 => by have := hsp j9 q9; omega)).trans hQ9.1)) rfl 2 (by decide) (hN.F 3 rfl) (fun _ h9 => h9) rfl dX0_scaleRow_87 ?_
      refine zr_icmp_gt hx hb 194 ⟨by omega, by omega⟩ ⟨by omega, by omega⟩ dX0_scaleRow_90 (by decide) (fun h_90 => ?_) (fun h_90 => ?_)
      · exfalso; omega
      · refine lv_iload hx hb dX0_scaleRow_93 (lv_at hl 0 rfl) ?_
        refine lv_aload_n hx hb dX0_scaleRow_95 rfl (lv_at hl 4 rfl) ?_
        refine zr_alen hx hb hK hP (ar9) 2 (pw_at (by omega) ((hof (ar9) (by omega) (by omega) (by omega) (fun j9 q9 => by have := hsp j9 q9; omega)).trans har9)) rfl dX0_scaleRow_96 ?_
        refine zr_icmp_ge hx hb 194 ⟨by omega, by omega⟩ ⟨by omega, by omega⟩ dX0_scaleRow_97 (by decide) (fun h_97 => ?_) (fun h_97 => ?_)
        · exfalso; omega
        · have hspj := hsp j (by omega)
          have hT2 := pe_T2 hT hi (j := j) (by omega)
          have hscb := pe_sc_b hT hi hn (m := n + 1) (Nat.le_refl _)
          obtain ⟨⟨es0, hes⟩, hEh⟩ := hold j (Nat.le_refl _) (by omega)
          refine lv_aload_n hx hb dX0_scaleRow_100 rfl (lv_at hl 2 rfl) ?_
          refine lv_iload_n hx hb dX0_scaleRow_101 rfl (lv_at hl 3 rfl) ?_
          refine lv_iload hx hb dX0_scaleRow_102 (lv_at hl 0 rfl) ?_
          refine zc_Vl (As := [.int (iZ (((i : Nat) : Int))), .int (iZ (((j : Nat) : Int)))]) (rest := []) (wr := []) ⟨hx, hb, hml, hown, hts⟩ (p_numAt l D cI cJ cE cF cR NP ad G2 n i j V (hQ9.keep (hof (2) (by omega) (by omega) (by omega) (fun j9 q9 => by have := hsp j9 q9; omega)) (hof (3) (by omega) (by omega) (by omega) (fun j9 q9 => by have := hsp j9 q9; omega)) (hof (4) (by omega) (by omega) (by omega) (fun j9 q9 => by have := hsp j9 q9; omega))) hi (by omega) hn (by omega)) (cwV 2 hts gX0_scaleRow_X4_numAt rfl rfl rfl (by decide +kernel) ⟨Nat.le_of_ble_eq_true rfl, Nat.le_of_ble_eq_true rfl⟩) hN hK hP hD hS hA (List.range NP) [] (pw_all _ _ _) rfl (pw_nd _) rfl (fun _ h9 => nomatch h9) (q0 := 2) (ci := 4) rfl rfl (pw_at (by omega) ((hof (2) (by omega) (by omega) (by omega) (fun j9 q9 => by have := hsp j9 q9; omega)).trans hQ9.1)) rfl hl.1 (Nat.le_of_ble_eq_true rfl) dX0_scaleRow_104 ⟨by decide, by decide⟩ (fun z104 w1 H locs hz104 hp hP hD hS => ?_)
          obtain ⟨G9, rfl, hr0, ho9⟩ := hp
          obtain rfl : G2 = G9 := (funext ho9).symm
          subst hr0
          have hP : va_P D vwCl (pw NP ad G2) H := hP
          have hD : va_D A (pw NP ad G2) := hD
          refine lv_lstore (lv' := [(6, .long (lZ ((V (7 * i + j)).num))), (5, .int (iZ (((j : Nat) : Int)))), (0, .ref (ad 6)), (1, .ref (ad 2)), (2, .int (iZ (((i : Nat) : Int)))), (3, .ref (ad ar9)), (4, .ref (ad sc9))]) hx hb dX0_scaleRow_107 hl (by decide) rfl (fun ls hl => ?_)
          refine lv_aload_n hx hb dX0_scaleRow_109 rfl (lv_at hl 5 rfl) ?_
          refine lv_iload hx hb dX0_scaleRow_110 (lv_at hl 1 rfl) ?_
          refine zr_aald hx hb hK hP (ar9) 2 (pw_at (by omega) ((hof (ar9) (by omega) (by omega) (by omega) (fun j9 q9 => by have := hsp j9 q9; omega)).trans har9)) rfl (j) (by omega) (by omega) (by omega) (v := ad (eb + sd * j)) (rfl) dX0_scaleRow_112 ?_
          refine lv_astore (lv' := [(8, .ref (ad (eb + sd * j))), (6, .long (lZ ((V (7 * i + j)).num))), (5, .int (iZ (((j : Nat) : Int)))), (0, .ref (ad 6)), (1, .ref (ad 2)), (2, .int (iZ (((i : Nat) : Int)))), (3, .ref (ad ar9)), (4, .ref (ad sc9))]) hx hb dX0_scaleRow_113 hl (by decide) rfl (fun ls hl => ?_)
          refine lv_aload hx hb dX0_scaleRow_115 (lv_at hl 0 rfl) ?_
          refine lv_lload hx hb dX0_scaleRow_117 (lv_at hl 1 rfl) ?_
          refine zc_SNi (As := [.long (lZ ((V (7 * i + j)).num))]) (rest := [.ref (ad (eb + sd * j))]) (wr := (pw NP ad G2)) ⟨hx, hb, hml, hown, hts⟩ (c_signOf l D cI cJ cE cF cR ((V (7 * i + j)).num) ⟨by omega, by omega⟩) ⟨va_cnB 1 hts gX0_scaleRow_X10_signOf_n116 rfl rfl rfl (hN.M 4 rfl) q_initialized_RX10 (by decide +kernel) ⟨Nat.le_of_ble_eq_true rfl, Nat.le_of_ble_eq_true rfl⟩, q_static_yX10_signOf, trivial⟩ hN hK hP hD hS hA [] (List.range NP) rfl (pw_all _ _ _) rfl (pw_nd _) (fun _ _ h9 => nomatch h9) rfl hl.1 (Nat.le_of_ble_eq_true rfl) dX0_scaleRow_119 ⟨by decide, by decide⟩ (fun z119 w1 H locs hz119 hp hP hD hS => ?_)
          obtain ⟨rfl, hcm⟩ := hp
          have hcm := bg_cmp_sg hcm
          subst hcm
          rw [List.append_nil] at hP hD
          refine va_putN (D := D) (ci := 3) (v := .int (iZ (((V (7 * i + j)).num).sign))) (ty := tyX3 1) (C := RX3) (T := TX3) (N := 2) hx hb hts hin3 tyX3 tyX3_ok nmX3 hown hK hP hD hS (eb + sd * j) (pw_at (by omega) (hes)) rfl 1 (by decide) (hN.F 12 rfl) (fun _ h9 => h9) rfl (tyX3_ok 1 (by decide)) rfl rfl (Nat.le_of_ble_eq_true rfl) dX0_scaleRow_122 (fun H locs hP hD hS => ?_)
          rw [pw_set] at hP hD
          obtain ⟨G_122, hg122⟩ : ∃ g : Nat → va_E, g = zu G2 (eb + sd * j) (.inr (3, [.ref (ad (eb + sd * j + 1)), .int (iZ (((V (7 * i + j)).num).sign))])) := ⟨_, rfl⟩
          have hP : va_P D vwCl (pw NP ad G_122) H := by rw [hg122]; exact hP
          have hD : va_D A (pw NP ad G_122) := by rw [hg122]; exact hD
          have ho122 : ∀ i8 : Nat, i8 ≠ eb + sd * j → G_122 i8 = G2 i8 := fun i8 hk => by rw [hg122]; exact zu_n _ _ hk
          have he122 : G_122 (eb + sd * j) = .inr (3, [.ref (ad (eb + sd * j + 1)), .int (iZ (((V (7 * i + j)).num).sign))]) := by rw [hg122]; exact zu_s _ _ _
          have k122_0 : G_122 (2) = .inr (4, [.ref (ad 3), .ref (ad 4), .int (iZ (((n : Nat) : Int)))]) := (ho122 (2) (by omega)).trans ((hof (2) (by omega) (by omega) (by omega) (fun j9 q9 => by have := hsp j9 q9; omega)).trans hQ9.1)
          have k122_1 : G_122 (6) = .inr (0, [.ref (ad 7), .ref (ad 10), .ref (ad 19), .ref (ad 21), .ref (ad 23), .ref (ad 25), .ref (ad 27), .ref (ad 29), .ref (ad 31)]) := (ho122 (6) (by omega)).trans (hA2.1)
          have k122_2 : G_122 (ar9) = aR cE (7) (fun j => some (ad (eb + sd * j))) := (ho122 (ar9) (by omega)).trans ((hof (ar9) (by omega) (by omega) (by omega) (fun j9 q9 => by have := hsp j9 q9; omega)).trans har9)
          have hA3 : pAr cI ad G_122 := hA2.keep (fun k q1 q2 => ho122 k (by omega))
          have hs3 := hs2.keep (ho122 _ (by omega)) (ho122 _ (by omega))
          have hEn : G_122 (eb + sd * j) = _ ∧ pHas cI ad G_122 (eb + sd * j + 1) 46 := ⟨he122, hEh.keep (ho122 _ (by omega)) (ho122 _ (by omega))⟩
          obtain ⟨c21, g21, h21, h21b⟩ := hA3.2.2.2.1
          refine lv_aload_n hx hb dX0_scaleRow_125 rfl (lv_at hl 3 rfl) ?_
          refine va_get (D := D) (ci := 0) (v := .ref (ad 21)) (C := RX0) (T := TX0) (N := 9) hx hb hts hin0 hown hK hP (6) (pw_at (by omega) (k122_1)) rfl 3 (by decide) q_f_RX0_36_Arithmetic_part_LWhole (fun _ h9 => h9) rfl dX0_scaleRow_126 ?_
          refine lv_aload_n hx hb dX0_scaleRow_129 rfl (lv_at hl 4 rfl) ?_
          refine lv_iload_n hx hb dX0_scaleRow_130 rfl (lv_at hl 5 rfl) ?_
          refine lv_iload hx hb dX0_scaleRow_131 (lv_at hl 2 rfl) ?_
          refine zc_Vl (As := [.int (iZ (((i : Nat) : Int))), .int (iZ (((j : Nat) : Int)))]) (rest := [.ref (ad 21)]) (wr := []) ⟨hx, hb, hml, hown, hts⟩ (p_denAt l D cI cJ cE cF cR NP ad G_122 n i j V ((hQ9.keep (hof (2) (by omega) (by omega) (by omega) (fun j9 q9 => by have := hsp j9 q9; omega)) (hof (3) (by omega) (by omega) (by omega) (fun j9 q9 => by have := hsp j9 q9; omega)) (hof (4) (by omega) (by omega) (by omega) (fun j9 q9 => by have := hsp j9 q9; omega))).keep (ho122 _ (by omega)) (ho122 _ (by omega)) (ho122 _ (by omega))) hi (by omega) hn (by omega)) (cwV 2 hts gX0_scaleRow_X4_denAt rfl rfl rfl (by decide +kernel) ⟨Nat.le_of_ble_eq_true rfl, Nat.le_of_ble_eq_true rfl⟩) hN hK hP hD hS hA (List.range NP) [] (pw_all _ _ _) rfl (pw_nd _) rfl (fun _ h9 => nomatch h9) (q0 := 2) (ci := 4) rfl rfl (pw_at (by omega) (k122_0)) rfl hl.1 (Nat.le_of_ble_eq_true rfl) dX0_scaleRow_133 ⟨by decide, by decide⟩ (fun z133 w1 H locs hz133 hp hP hD hS => ?_)
          obtain ⟨G9, rfl, hr0, ho9⟩ := hp
          obtain rfl : G_122 = G9 := (funext ho9).symm
          subst hr0
          have hP : va_P D vwCl (pw NP ad G_122) H := hP
          have hD : va_D A (pw NP ad G_122) := hD
          refine zc_Vv (As := [.long (lZ (((V (7 * i + j)).den : Int)))]) (rest := []) (wr := []) ⟨hx, hb, hml, hown, hts⟩ (p_assign l D cI cJ cE cF cR NP ad G_122 21 96 (((V (7 * i + j)).den : Int)) hA3.2.2.2.1 ⟨by omega, by omega⟩ (Int.lt_of_lt_of_le hT2.1 (bg_p_le (by decide))) (by decide) (by omega)) (cwV 1 hts gX0_scaleRow_X9_assign rfl rfl rfl (by decide +kernel) ⟨Nat.le_of_ble_eq_true rfl, Nat.le_of_ble_eq_true rfl⟩) hN hK hP hD hS hA (List.range NP) [] (pw_all _ _ _) rfl (pw_nd _) rfl (fun _ h9 => nomatch h9) (q0 := 21) (ci := 9) rfl rfl (pw_at (by omega) (h21)) rfl hl.1 (Nat.le_of_ble_eq_true rfl) dX0_scaleRow_136 ⟨by decide, by decide⟩ (fun w1 H locs hp hP hD hS => ?_)
          obtain ⟨G4, rfl, hp4, ho4⟩ := hp
          have hP : va_P D vwCl (pw NP ad G4) H := hP
          have hD : va_D A (pw NP ad G4) := hD
          have k136_0 : G4 (2) = .inr (4, [.ref (ad 3), .ref (ad 4), .int (iZ (((n : Nat) : Int)))]) := (ho4 (2) (by omega) (by omega)).trans (k122_0)
          have k136_1 : G4 (6) = .inr (0, [.ref (ad 7), .ref (ad 10), .ref (ad 19), .ref (ad 21), .ref (ad 23), .ref (ad 25), .ref (ad 27), .ref (ad 29), .ref (ad 31)]) := (ho4 (6) (by omega) (by omega)).trans (k122_1)
          have k136_2 : G4 (ar9) = aR cE (7) (fun j => some (ad (eb + sd * j))) := (ho4 (ar9) (by omega) (by omega)).trans (k122_2)
          have k136_3 : G4 (eb + sd * j) = .inr (3, [.ref (ad (eb + sd * j + 1)), .int (iZ (((V (7 * i + j)).num).sign))]) := (ho4 (eb + sd * j) (by omega) (by omega)).trans (he122)
          refine lv_aload_n hx hb dX0_scaleRow_139 rfl (lv_at hl 3 rfl) ?_
          refine va_get (D := D) (ci := 0) (v := .ref (ad 7)) (C := RX0) (T := TX0) (N := 9) hx hb hts hin0 hown hK hP (6) (pw_at (by omega) (k136_1)) rfl 0 (by decide) q_f_RX0_12_Arithmetic_division_LDivision (fun _ h9 => h9) rfl dX0_scaleRow_140 ?_
          refine lv_aload hx hb dX0_scaleRow_143 (lv_at hl 7 rfl) ?_
          refine lv_aload_n hx hb dX0_scaleRow_145 rfl (lv_at hl 3 rfl) ?_
          refine va_get (D := D) (ci := 0) (v := .ref (ad 21)) (C := RX0) (T := TX0) (N := 9) hx hb hts hin0 hown hK hP (6) (pw_at (by omega) (k136_1)) rfl 3 (by decide) q_f_RX0_36_Arithmetic_part_LWhole (fun _ h9 => h9) rfl dX0_scaleRow_146 ?_
          refine lv_aload_n hx hb dX0_scaleRow_149 rfl (lv_at hl 3 rfl) ?_
          refine va_get (D := D) (ci := 0) (v := .ref (ad 23)) (C := RX0) (T := TX0) (N := 9) hx hb hts hin0 hown hK hP (6) (pw_at (by omega) (k136_1)) rfl 4 (by decide) q_f_RX0_39_Arithmetic_product_LWhole (fun _ h9 => h9) rfl dX0_scaleRow_150 ?_
          refine lv_aload_n hx hb dX0_scaleRow_153 rfl (lv_at hl 3 rfl) ?_
          refine va_get (D := D) (ci := 0) (v := .ref (ad 19)) (C := RX0) (T := TX0) (N := 9) hx hb hts hin0 hown hK hP (6) (pw_at (by omega) (k136_1)) rfl 2 (by decide) q_f_RX0_32_Arithmetic_rest_LWhole (fun _ h9 => h9) rfl dX0_scaleRow_154 ?_
          refine zc_Vv (As := [.ref (ad sc9), .ref (ad 21), .ref (ad 23), .ref (ad 19)]) (rest := []) (wr := []) ⟨hx, hb, hml, hown, hts⟩ (p_divide l D cI cJ cE cF cR NP ad G4 sc9 21 23 19 rs 96 96 96 8 2 (((pe_sc V i (n + 1) : Nat) : Int)) (((V (7 * i + j)).den : Int)) (hA3.2.1.keep (fun k q1 q2 => ho4 k (by omega) (by omega))) (hs3.keep (ho4 _ (by omega) (by omega)) (ho4 _ (by omega) (by omega))) hp4 (hA3.2.2.2.2.1.keep (ho4 _ (by omega) (by omega)) (ho4 _ (by omega) (by omega))) (hA3.2.2.1.keep (ho4 _ (by omega) (by omega)) (ho4 _ (by omega) (by omega))) hT2.2.2.1 hscb.1 hT2.1 (by decide) (by decide) 8 (Int.lt_of_le_of_lt (Int.ediv_le_self _ (by omega)) hscb.1) (by decide) (by omega) (by decide) (by decide) (by decide) (by omega) (by omega) (by omega) (by omega) (by omega) (by omega) (by omega) (by omega) (by omega) (by omega) (by omega) (by omega) (by omega) (by omega)) (cwV 4 hts gX0_scaleRow_X1_divide rfl rfl rfl (by decide +kernel) ⟨Nat.le_of_ble_eq_true rfl, Nat.le_of_ble_eq_true rfl⟩) hN hK hP hD hS hA (List.range NP) [] (pw_all _ _ _) rfl (pw_nd _) rfl (fun _ h9 => nomatch h9) (q0 := 7) (ci := 1) rfl rfl (pw_at (by omega) ((ho4 7 (by omega) (by omega)).trans hA3.2.1.1)) rfl hl.1 (Nat.le_of_ble_eq_true rfl) dX0_scaleRow_157 ⟨by decide, by decide⟩ (fun w1 H locs hp hP hD hS => ?_)
          obtain ⟨G5, rfl, hE5, hq5, hr5, ho5⟩ := hp
          have hP : va_P D vwCl (pw NP ad G5) H := hP
          have hD : va_D A (pw NP ad G5) := hD
          have k157_0 : G5 (2) = .inr (4, [.ref (ad 3), .ref (ad 4), .int (iZ (((n : Nat) : Int)))]) := (ho5 (2) (by omega) (by omega) (by omega) (by omega) (by omega)).trans (k136_0)
          have k157_1 : G5 (6) = .inr (0, [.ref (ad 7), .ref (ad 10), .ref (ad 19), .ref (ad 21), .ref (ad 23), .ref (ad 25), .ref (ad 27), .ref (ad 29), .ref (ad 31)]) := (ho5 (6) (by omega) (by omega) (by omega) (by omega) (by omega)).trans (k136_1)
          have k157_2 : G5 (ar9) = aR cE (7) (fun j => some (ad (eb + sd * j))) := (ho5 (ar9) (by omega) (by omega) (by omega) (by omega) (by omega)).trans (k136_2)
          have k157_3 : G5 (eb + sd * j) = .inr (3, [.ref (ad (eb + sd * j + 1)), .int (iZ (((V (7 * i + j)).num).sign))]) := (ho5 (eb + sd * j) (by omega) (by omega) (by omega) (by omega) (by omega)).trans (k136_3)
          obtain ⟨c25, g25, h25, h25b⟩ := hp4.has.keep (ho5 _ (by omega) (by omega) (by omega) (by omega) (by omega)) (ho5 _ (by omega) (by omega) (by omega) (by omega) (by omega))
          refine lv_aload_n hx hb dX0_scaleRow_160 rfl (lv_at hl 3 rfl) ?_
          refine va_get (D := D) (ci := 0) (v := .ref (ad 21)) (C := RX0) (T := TX0) (N := 9) hx hb hts hin0 hown hK hP (6) (pw_at (by omega) (k157_1)) rfl 3 (by decide) q_f_RX0_36_Arithmetic_part_LWhole (fun _ h9 => h9) rfl dX0_scaleRow_161 ?_
          refine lv_lload hx hb dX0_scaleRow_164 (lv_at hl 1 rfl) ?_
          refine zr_labs hx hb (hml.trans hl.1.symm) hown q_methodLink_RX0_120_Lib_MathLoose_abs_long_x q_static_Lib_MathLoose_abs_long_x q_initialized_java_lang_Math q_code_Lib_MathLoose_abs_long_x_Lib_MathLoose_abs_lo (Nat.le_of_ble_eq_true rfl) (Nat.le_of_ble_eq_true rfl) (Nat.zero_le _) (Nat.zero_le _) ⟨by omega, by omega⟩ dX0_scaleRow_166 ?_
          refine zc_Vv (As := [.long (lZ ((((V (7 * i + j)).num).natAbs : Int)))]) (rest := []) (wr := []) ⟨hx, hb, hml, hown, hts⟩ (p_assign l D cI cJ cE cF cR NP ad G5 21 96 (((V (7 * i + j)).num).natAbs : Int) (hp4.has.keep (ho5 _ (by omega) (by omega) (by omega) (by omega) (by omega)) (ho5 _ (by omega) (by omega) (by omega) (by omega) (by omega))) ⟨by omega, by omega⟩ (Int.lt_of_lt_of_le hT2.2.1 (bg_p_le (by decide))) (by decide) (by omega)) (cwV 1 hts gX0_scaleRow_X9_assign rfl rfl rfl (by decide +kernel) ⟨Nat.le_of_ble_eq_true rfl, Nat.le_of_ble_eq_true rfl⟩) hN hK hP hD hS hA (List.range NP) [] (pw_all _ _ _) rfl (pw_nd _) rfl (fun _ h9 => nomatch h9) (q0 := 21) (ci := 9) rfl rfl (pw_at (by omega) (h25)) rfl hl.1 (Nat.le_of_ble_eq_true rfl) dX0_scaleRow_169 ⟨by decide, by decide⟩ (fun w1 H locs hp hP hD hS => ?_)
          obtain ⟨G6, rfl, hp6, ho6⟩ := hp
          have hP : va_P D vwCl (pw NP ad G6) H := hP
          have hD : va_D A (pw NP ad G6) := hD
          have k169_0 : G6 (2) = .inr (4, [.ref (ad 3), .ref (ad 4), .int (iZ (((n : Nat) : Int)))]) := (ho6 (2) (by omega) (by omega)).trans (k157_0)
          have k169_1 : G6 (6) = .inr (0, [.ref (ad 7), .ref (ad 10), .ref (ad 19), .ref (ad 21), .ref (ad 23), .ref (ad 25), .ref (ad 27), .ref (ad 29), .ref (ad 31)]) := (ho6 (6) (by omega) (by omega)).trans (k157_1)
          have k169_2 : G6 (ar9) = aR cE (7) (fun j => some (ad (eb + sd * j))) := (ho6 (ar9) (by omega) (by omega)).trans (k157_2)
          have k169_3 : G6 (eb + sd * j) = .inr (3, [.ref (ad (eb + sd * j + 1)), .int (iZ (((V (7 * i + j)).num).sign))]) := (ho6 (eb + sd * j) (by omega) (by omega)).trans (k157_3)
          obtain ⟨cE6, gE6, hE6, hE6b⟩ := ((hEn.2.keep (ho4 _ (by omega) (by omega)) (ho4 _ (by omega) (by omega))).keep (ho5 _ (by omega) (by omega) (by omega) (by omega) (by omega)) (ho5 _ (by omega) (by omega) (by omega) (by omega) (by omega))).keep (ho6 _ (by omega) (by omega)) (ho6 _ (by omega) (by omega))
          refine lv_aload hx hb dX0_scaleRow_172 (lv_at hl 0 rfl) ?_
          refine va_getN (D := D) (ci := 3) (v := .ref (ad (eb + sd * j + 1))) (C := RX3) (T := TX3) (N := 2) hx hb hts hin3 hown hK hP (eb + sd * j) (pw_at (by omega) (k169_3)) rfl 0 (by decide) (hN.F 10 rfl) (fun _ h9 => h9) rfl dX0_scaleRow_174 ?_
          refine lv_aload_n hx hb dX0_scaleRow_177 rfl (lv_at hl 3 rfl) ?_
          refine va_get (D := D) (ci := 0) (v := .ref (ad 23)) (C := RX0) (T := TX0) (N := 9) hx hb hts hin0 hown hK hP (6) (pw_at (by omega) (k169_1)) rfl 4 (by decide) q_f_RX0_39_Arithmetic_product_LWhole (fun _ h9 => h9) rfl dX0_scaleRow_178 ?_
          refine lv_aload_n hx hb dX0_scaleRow_181 rfl (lv_at hl 3 rfl) ?_
          refine va_get (D := D) (ci := 0) (v := .ref (ad 21)) (C := RX0) (T := TX0) (N := 9) hx hb hts hin0 hown hK hP (6) (pw_at (by omega) (k169_1)) rfl 3 (by decide) q_f_RX0_36_Arithmetic_part_LWhole (fun _ h9 => h9) rfl dX0_scaleRow_182 ?_
          refine zc_Vv (As := [.ref (ad 23), .ref (ad 21)]) (rest := []) (wr := []) ⟨hx, hb, hml, hown, hts⟩ (p_multiply l D cI cJ cE cF cR NP ad G6 (eb + sd * j + 1) 23 21 46 96 96 8 2 (((pe_sc V i (n + 1) : Nat) : Int) / ((V (7 * i + j)).den : Int)) (((V (7 * i + j)).num).natAbs : Int) (((hEn.2.keep (ho4 _ (by omega) (by omega)) (ho4 _ (by omega) (by omega))).keep (ho5 _ (by omega) (by omega) (by omega) (by omega) (by omega)) (ho5 _ (by omega) (by omega) (by omega) (by omega) (by omega))).keep (ho6 _ (by omega) (by omega)) (ho6 _ (by omega) (by omega))) (hq5.keep (ho6 _ (by omega) (by omega)) (ho6 _ (by omega) (by omega))) hp6 (Int.lt_of_le_of_lt (Int.ediv_le_self _ (by omega)) hscb.1) hT2.2.1 (by decide) (by decide) (by decide) (by decide) (by omega) (by omega) (by omega) ⟨by omega, by omega, by omega⟩) (cwV 2 hts gX0_scaleRow_X9_multiply rfl rfl rfl (by decide +kernel) ⟨Nat.le_of_ble_eq_true rfl, Nat.le_of_ble_eq_true rfl⟩) hN hK hP hD hS hA (List.range NP) [] (pw_all _ _ _) rfl (pw_nd _) rfl (fun _ h9 => nomatch h9) (q0 := eb + sd * j + 1) (ci := 9) rfl rfl (pw_at (by omega) (hE6)) rfl hl.1 (Nat.le_of_ble_eq_true rfl) dX0_scaleRow_185 ⟨by decide, by decide⟩ (fun w1 H locs hp hP hD hS => ?_)
          obtain ⟨G7, rfl, hw7, ho7⟩ := hp
          rw [← (pe_w_p (V := V) (n := n) (i := i) (j := j) (by omega)).1] at hw7
          have hP : va_P D vwCl (pw NP ad G7) H := hP
          have hD : va_D A (pw NP ad G7) := hD
          have k185_0 : G7 (2) = .inr (4, [.ref (ad 3), .ref (ad 4), .int (iZ (((n : Nat) : Int)))]) := (ho7 (2) (by omega) (by omega)).trans (k169_0)
          have k185_1 : G7 (6) = .inr (0, [.ref (ad 7), .ref (ad 10), .ref (ad 19), .ref (ad 21), .ref (ad 23), .ref (ad 25), .ref (ad 27), .ref (ad 29), .ref (ad 31)]) := (ho7 (6) (by omega) (by omega)).trans (k169_1)
          have k185_2 : G7 (ar9) = aR cE (7) (fun j => some (ad (eb + sd * j))) := (ho7 (ar9) (by omega) (by omega)).trans (k169_2)
          have k185_3 : G7 (eb + sd * j) = .inr (3, [.ref (ad (eb + sd * j + 1)), .int (iZ (((V (7 * i + j)).num).sign))]) := (ho7 (eb + sd * j) (by omega) (by omega)).trans (k169_3)
          refine lv_iinc (v := iZ (((j + 1 : Nat) : Int))) (lv' := [(5, .int (iZ (((j + 1 : Nat) : Int)))), (8, .ref (ad (eb + sd * j))), (6, .long (lZ ((V (7 * i + j)).num))), (0, .ref (ad 6)), (1, .ref (ad 2)), (2, .int (iZ (((i : Nat) : Int)))), (3, .ref (ad ar9)), (4, .ref (ad sc9))]) hx hb dX0_scaleRow_188 hl (k := 2) rfl (by rw [show ((j + 1 : Nat) : Int) = ((j : Nat) : Int) + 1 by omega]; exact iZ_add _ _) (by decide) rfl (fun ls hl => ?_)
          refine lv_goto (tgt := 84) hx hb dX0_scaleRow_191 (by decide) ?_
          exact ih2 (j + 1) G7 H locs ls (by omega) ⟨(ho7 6 (by omega) (by omega)).trans ((ho6 6 (by omega) (by omega)).trans ((ho5 6 (by omega) (by omega) (by omega) (by omega) (by omega)).trans ((ho4 6 (by omega) (by omega)).trans hA3.1))), (hE5.keep (fun k q1 q2 => ho6 k (by omega) (by omega))).keep (fun k q1 q2 => ho7 k (by omega) (by omega)), (((hr5.has).keep (ho6 _ (by omega) (by omega)) (ho6 _ (by omega) (by omega))).keep (ho7 _ (by omega) (by omega)) (ho7 _ (by omega) (by omega))), (hp6.has.keep (ho7 _ (by omega) (by omega)) (ho7 _ (by omega) (by omega))), ((hq5.has.keep (ho6 _ (by omega) (by omega)) (ho6 _ (by omega) (by omega))).keep (ho7 _ (by omega) (by omega)) (ho7 _ (by omega) (by omega))), (((((hA3.2.2.2.2.2.1).keep (ho4 _ (by omega) (by omega)) (ho4 _ (by omega) (by omega))).keep (ho5 _ (by omega) (by omega) (by omega) (by omega) (by omega)) (ho5 _ (by omega) (by omega) (by omega) (by omega) (by omega))).keep (ho6 _ (by omega) (by omega)) (ho6 _ (by omega) (by omega))).keep (ho7 _ (by omega) (by omega)) (ho7 _ (by omega) (by omega))), (((((hA3.2.2.2.2.2.2.1).keep (ho4 _ (by omega) (by omega)) (ho4 _ (by omega) (by omega))).keep (ho5 _ (by omega) (by omega) (by omega) (by omega) (by omega)) (ho5 _ (by omega) (by omega) (by omega) (by omega) (by omega))).keep (ho6 _ (by omega) (by omega)) (ho6 _ (by omega) (by omega))).keep (ho7 _ (by omega) (by omega)) (ho7 _ (by omega) (by omega))), (((((hA3.2.2.2.2.2.2.2.1).keep (ho4 _ (by omega) (by omega)) (ho4 _ (by omega) (by omega))).keep (ho5 _ (by omega) (by omega) (by omega) (by omega) (by omega)) (ho5 _ (by omega) (by omega) (by omega) (by omega) (by omega))).keep (ho6 _ (by omega) (by omega)) (ho6 _ (by omega) (by omega))).keep (ho7 _ (by omega) (by omega)) (ho7 _ (by omega) (by omega))), (((((hA3.2.2.2.2.2.2.2.2).keep (ho4 _ (by omega) (by omega)) (ho4 _ (by omega) (by omega))).keep (ho5 _ (by omega) (by omega) (by omega) (by omega) (by omega)) (ho5 _ (by omega) (by omega) (by omega) (by omega) (by omega))).keep (ho6 _ (by omega) (by omega)) (ho6 _ (by omega) (by omega))).keep (ho7 _ (by omega) (by omega)) (ho7 _ (by omega) (by omega)))⟩ (((((hs3.keep (ho4 _ (by omega) (by omega)) (ho4 _ (by omega) (by omega))).keep (ho5 _ (by omega) (by omega) (by omega) (by omega) (by omega)) (ho5 _ (by omega) (by omega) (by omega) (by omega) (by omega))).keep (ho6 _ (by omega) (by omega)) (ho6 _ (by omega) (by omega))).keep (ho7 _ (by omega) (by omega)) (ho7 _ (by omega) (by omega)))) (fun j9 h1 => by by_cases w : j9 = j; (subst w; exact ⟨by rw [(pe_w_p (V := V) (n := n) (i := i) (j := j9) (by omega)).2]; exact (ho7 _ (by omega) (by omega)).trans ((ho6 _ (by omega) (by omega)).trans ((ho5 _ (by omega) (by omega) (by omega) (by omega) (by omega)).trans ((ho4 _ (by omega) (by omega)).trans he122))), hw7⟩); (have := hsp j9 (by omega)); (have := hstr j9 j (by omega)); exact (hnew j9 (by omega)).keep (fun i9 q1 q2 => (ho7 i9 (by omega) (by omega)).trans ((ho6 i9 (by omega) (by omega)).trans ((ho5 i9 (by omega) (by omega) (by omega) (by omega) (by omega)).trans ((ho4 i9 (by omega) (by omega)).trans (ho122 i9 (by omega))))))) (fun j9 h1 h2 => by have := hsp j9 h2; have := hstr j9 j (by omega); exact (hold j9 (by omega) h2).keep (fun i9 q1 q2 => (ho7 i9 (by omega) (by omega)).trans ((ho6 i9 (by omega) (by omega)).trans ((ho5 i9 (by omega) (by omega) (by omega) (by omega) (by omega)).trans ((ho4 i9 (by omega) (by omega)).trans (ho122 i9 (by omega))))))) (fun i9 h1 h2 h3 h4 => by have := h4 j (by omega); exact (ho7 i9 (by omega) (by omega)).trans ((ho6 i9 (by omega) (by omega)).trans ((ho5 i9 (by omega) (by omega) (by omega) (by omega) (by omega)).trans ((ho4 i9 (by omega) (by omega)).trans ((ho122 i9 (by omega)).trans (hof i9 h1 h2 h3 h4)))))) hP hD hS (lv_sub hl [0, 3, 4, 5, 6, 7] rfl)
  have lp1 : ∀ (t : Nat) (j : Nat) (G1 : Nat → va_E) (H : Heap) (locs : List Loc) (ls : Array Slot), (j + t = n + 1) → (pAr cI ad G1) → (pWh cI ad G1 sc9 rs ((pe_sc V i j : Nat) : Int)) → (∀ i9 : Nat, i9 < 7 ∨ 32 < i9 → i9 ≠ sc9 → i9 ≠ sc9 + 1 → G1 i9 = G i9) →  va_P D vwCl (pw NP ad G1) H → va_D A (pw NP ad G1) → va_S A s.heap H locs → lv_has ls 9 [(5, .int (iZ (((j : Nat) : Int)))), (0, .ref (ad 6)), (1, .ref (ad 2)), (2, .int (iZ (((i : Nat) : Int)))), (3, .ref (ad ar9)), (4, .ref (ad sc9))] → W zp l ze (zRm 4 150) s zm args below meth zc H locs 0 0 Q (F0 zm 9 ls []) := by
    intro t
    induction t with
    | zero =>
      intro j G1 H locs ls hjt hA1 hs1 hof hP hD hS hl
      refine lv_iload hx hb dX0_scaleRow_9 (lv_at hl 0 rfl) ?_
      refine lv_aload_n hx hb dX0_scaleRow_11 rfl (lv_at hl 2 rfl) ?_
      refine va_getN (D := D) (ci := 4) (v := .int (iZ (((n : Nat) : Int)))) (C := RX4) (T := TX4) (N := 3) hx hb hts hin4 hown hK hP (2) (pw_at (by omega) (((hof 2 (by omega) (by omega) (by omega)).trans hQ9.1))) rfl 2 (by decide) (hN.F 3 rfl) (fun _ h9 => h9) rfl dX0_scaleRow_12 ?_
      refine zr_icmp_gt hx hb 81 ⟨by omega, by omega⟩ ⟨by omega, by omega⟩ dX0_scaleRow_15 (by decide) (fun h_15 => ?_) (fun h_15 => ?_)
      · refine lv_iconst (v := iZ 0) hx hb dX0_scaleRow_81 rfl ?_
        refine zr_eqi (((0 : Nat) : Int)) (by rfl) ?_
        refine lv_istore (lv' := [(5, .int (iZ (((0 : Nat) : Int)))), (0, .ref (ad 6)), (1, .ref (ad 2)), (2, .int (iZ (((i : Nat) : Int)))), (3, .ref (ad ar9)), (4, .ref (ad sc9))]) hx hb dX0_scaleRow_82 hl (by decide) rfl (fun ls hl => ?_)
        exact lp2 (n + 1) 0 G1 H locs ls (by omega) hA1 (by rw [← show j = n + 1 by omega]; exact hs1) (fun j9 h1 => absurd h1 (Nat.not_lt_zero j9)) (fun j9 h1 h2 => (hold0 j9 h2).keep (fun i9 q1 q2 => hof i9 (by have := hsp j9 h2; omega) (by have := hsp j9 h2; omega) (by have := hsp j9 h2; omega))) (fun i9 h1 h2 h3 h4 => hof i9 h1 h2 h3) hP hD hS (lv_sub hl [0, 1, 2, 3, 4, 5] rfl)
      · exfalso; omega
    | succ t ih =>
      intro j G1 H locs ls hjt hA1 hs1 hof hP hD hS hl
      refine lv_iload hx hb dX0_scaleRow_9 (lv_at hl 0 rfl) ?_
      refine lv_aload_n hx hb dX0_scaleRow_11 rfl (lv_at hl 2 rfl) ?_
      refine va_getN (D := D) (ci := 4) (v := .int (iZ (((n : Nat) : Int)))) (C := RX4) (T := TX4) (N := 3) hx hb hts hin4 hown hK hP (2) (pw_at (by omega) (((hof 2 (by omega) (by omega) (by omega)).trans hQ9.1))) rfl 2 (by decide) (hN.F 3 rfl) (fun _ h9 => h9) rfl dX0_scaleRow_12 ?_
      refine zr_icmp_gt hx hb 81 ⟨by omega, by omega⟩ ⟨by omega, by omega⟩ dX0_scaleRow_15 (by decide) (fun h_15 => ?_) (fun h_15 => ?_)
      · exfalso; omega
      · have hT2 := pe_T2 hT hi (j := j) (by omega)
        have hscb := pe_sc_b hT hi hn (m := j) (by omega)
        have hsc2 := pe_sc_b hT hi hn (m := j + 1) (by omega)
        obtain ⟨c21, g21, h21, h21b⟩ := hA1.2.2.2.1
        refine lv_aload_n hx hb dX0_scaleRow_18 rfl (lv_at hl 1 rfl) ?_
        refine va_get (D := D) (ci := 0) (v := .ref (ad 21)) (C := RX0) (T := TX0) (N := 9) hx hb hts hin0 hown hK hP (6) (pw_at (by omega) (hA1.1)) rfl 3 (by decide) q_f_RX0_36_Arithmetic_part_LWhole (fun _ h9 => h9) rfl dX0_scaleRow_19 ?_
        refine lv_aload_n hx hb dX0_scaleRow_22 rfl (lv_at hl 2 rfl) ?_
        refine lv_iload_n hx hb dX0_scaleRow_23 rfl (lv_at hl 3 rfl) ?_
        refine lv_iload hx hb dX0_scaleRow_24 (lv_at hl 0 rfl) ?_
        refine zc_Vl (As := [.int (iZ (((i : Nat) : Int))), .int (iZ (((j : Nat) : Int)))]) (rest := [.ref (ad 21)]) (wr := []) ⟨hx, hb, hml, hown, hts⟩ (p_denAt l D cI cJ cE cF cR NP ad G1 n i j V (hQ9.keep (hof _ (by omega) (by omega) (by omega)) (hof _ (by omega) (by omega) (by omega)) (hof _ (by omega) (by omega) (by omega))) hi (by omega) hn (by omega)) (cwV 2 hts gX0_scaleRow_X4_denAt rfl rfl rfl (by decide +kernel) ⟨Nat.le_of_ble_eq_true rfl, Nat.le_of_ble_eq_true rfl⟩) hN hK hP hD hS hA (List.range NP) [] (pw_all _ _ _) rfl (pw_nd _) rfl (fun _ h9 => nomatch h9) (q0 := 2) (ci := 4) rfl rfl (pw_at (by omega) (((hof 2 (by omega) (by omega) (by omega)).trans hQ9.1))) rfl hl.1 (Nat.le_of_ble_eq_true rfl) dX0_scaleRow_26 ⟨by decide, by decide⟩ (fun z26 w1 H locs hz26 hp hP hD hS => ?_)
        obtain ⟨G9, rfl, hr0, ho9⟩ := hp
        obtain rfl : G1 = G9 := (funext ho9).symm
        subst hr0
        have hP : va_P D vwCl (pw NP ad G1) H := hP
        have hD : va_D A (pw NP ad G1) := hD
        refine zc_Vv (As := [.long (lZ (((V (7 * i + j)).den : Int)))]) (rest := []) (wr := []) ⟨hx, hb, hml, hown, hts⟩ (p_assign l D cI cJ cE cF cR NP ad G1 21 96 (((V (7 * i + j)).den : Int)) hA1.2.2.2.1 ⟨by omega, by omega⟩ (Int.lt_of_lt_of_le hT2.1 (bg_p_le (by decide))) (by decide) (by omega)) (cwV 1 hts gX0_scaleRow_X9_assign rfl rfl rfl (by decide +kernel) ⟨Nat.le_of_ble_eq_true rfl, Nat.le_of_ble_eq_true rfl⟩) hN hK hP hD hS hA (List.range NP) [] (pw_all _ _ _) rfl (pw_nd _) rfl (fun _ h9 => nomatch h9) (q0 := 21) (ci := 9) rfl rfl (pw_at (by omega) (h21)) rfl hl.1 (Nat.le_of_ble_eq_true rfl) dX0_scaleRow_29 ⟨by decide, by decide⟩ (fun w1 H locs hp hP hD hS => ?_)
        obtain ⟨G2, rfl, hp2, ho2⟩ := hp
        have hP : va_P D vwCl (pw NP ad G2) H := hP
        have hD : va_D A (pw NP ad G2) := hD
        have k29_0 : G2 (6) = .inr (0, [.ref (ad 7), .ref (ad 10), .ref (ad 19), .ref (ad 21), .ref (ad 23), .ref (ad 25), .ref (ad 27), .ref (ad 29), .ref (ad 31)]) := (ho2 (6) (by omega) (by omega)).trans (hA1.1)
        have k29_1 : G2 (2) = .inr (4, [.ref (ad 3), .ref (ad 4), .int (iZ (((n : Nat) : Int)))]) := (ho2 (2) (by omega) (by omega)).trans (((hof 2 (by omega) (by omega) (by omega)).trans hQ9.1))
        obtain ⟨x1, x2, x3, x4, hE4⟩ := (hA1.2.1.keep (fun k q1 q2 => ho2 k (by omega) (by omega))).2.2.2.1
        refine lv_aload_n hx hb dX0_scaleRow_32 rfl (lv_at hl 1 rfl) ?_
        refine va_get (D := D) (ci := 0) (v := .ref (ad 10)) (C := RX0) (T := TX0) (N := 9) hx hb hts hin0 hown hK hP (6) (pw_at (by omega) (k29_0)) rfl 1 (by decide) q_f_RX0_23_Arithmetic_euclid_LEuclid (fun _ h9 => h9) rfl dX0_scaleRow_33 ?_
        refine lv_aload_n hx hb dX0_scaleRow_36 rfl (lv_at hl 1 rfl) ?_
        refine va_get (D := D) (ci := 0) (v := .ref (ad 21)) (C := RX0) (T := TX0) (N := 9) hx hb hts hin0 hown hK hP (6) (pw_at (by omega) (k29_0)) rfl 3 (by decide) q_f_RX0_36_Arithmetic_part_LWhole (fun _ h9 => h9) rfl dX0_scaleRow_37 ?_
        refine lv_aload hx hb dX0_scaleRow_40 (lv_at hl 5 rfl) ?_
        refine lv_aload_n hx hb dX0_scaleRow_42 rfl (lv_at hl 1 rfl) ?_
        refine va_get (D := D) (ci := 0) (v := .ref (ad 21)) (C := RX0) (T := TX0) (N := 9) hx hb hts hin0 hown hK hP (6) (pw_at (by omega) (k29_0)) rfl 3 (by decide) q_f_RX0_36_Arithmetic_part_LWhole (fun _ h9 => h9) rfl dX0_scaleRow_43 ?_
        refine lv_aload_n hx hb dX0_scaleRow_46 rfl (lv_at hl 1 rfl) ?_
        refine va_get (D := D) (ci := 0) (v := .ref (ad 23)) (C := RX0) (T := TX0) (N := 9) hx hb hts hin0 hown hK hP (6) (pw_at (by omega) (k29_0)) rfl 4 (by decide) q_f_RX0_39_Arithmetic_product_LWhole (fun _ h9 => h9) rfl dX0_scaleRow_47 ?_
        refine zc_Vv (As := [.ref (ad 21), .ref (ad sc9), .ref (ad 21), .ref (ad 23)]) (rest := []) (wr := []) ⟨hx, hb, hml, hown, hts⟩ (p_cancelA l D cI cJ cE cF cR NP ad G2 21 sc9 23 96 rs 96 2 8 (((V (7 * i + j)).den : Int)) (((pe_sc V i j : Nat) : Int)) (hA1.2.1.keep (fun k q1 q2 => ho2 k (by omega) (by omega))) hp2 (hs1.keep (ho2 _ (by omega) (by omega)) (ho2 _ (by omega) (by omega))) (hA1.2.2.2.2.1.keep (ho2 _ (by omega) (by omega)) (ho2 _ (by omega) (by omega))) hscb.2 hT2.1 hscb.1 (by decide) (by decide) (by decide) (by decide) (by omega) (by decide) (by omega) (by omega) (by omega) (by omega) (by omega) (by omega) (by omega) (by omega) (by omega)) (cwV 4 hts gX0_scaleRow_X5_cancel rfl rfl rfl (by decide +kernel) ⟨Nat.le_of_ble_eq_true rfl, Nat.le_of_ble_eq_true rfl⟩) hN hK hP hD hS hA (List.range NP) [] (pw_all _ _ _) rfl (pw_nd _) rfl (fun _ h9 => nomatch h9) (q0 := 10) (ci := 5) rfl rfl (pw_at (by omega) (hE4)) rfl hl.1 (Nat.le_of_ble_eq_true rfl) dX0_scaleRow_50 ⟨by decide, by decide⟩ (fun w1 H locs hp hP hD hS => ?_)
        obtain ⟨G3, rfl, hE3, hp3, hq3, ho3⟩ := hp
        have hP : va_P D vwCl (pw NP ad G3) H := hP
        have hD : va_D A (pw NP ad G3) := hD
        have k50_0 : G3 (6) = .inr (0, [.ref (ad 7), .ref (ad 10), .ref (ad 19), .ref (ad 21), .ref (ad 23), .ref (ad 25), .ref (ad 27), .ref (ad 29), .ref (ad 31)]) := (ho3 (6) (by omega) (by omega) (by omega) (by omega) (by omega)).trans (k29_0)
        have k50_1 : G3 (2) = .inr (4, [.ref (ad 3), .ref (ad 4), .int (iZ (((n : Nat) : Int)))]) := (ho3 (2) (by omega) (by omega) (by omega) (by omega) (by omega)).trans (k29_1)
        obtain ⟨c23, g23, h23, h23b⟩ := hq3.has
        refine lv_aload_n hx hb dX0_scaleRow_53 rfl (lv_at hl 1 rfl) ?_
        refine va_get (D := D) (ci := 0) (v := .ref (ad 23)) (C := RX0) (T := TX0) (N := 9) hx hb hts hin0 hown hK hP (6) (pw_at (by omega) (k50_0)) rfl 4 (by decide) q_f_RX0_39_Arithmetic_product_LWhole (fun _ h9 => h9) rfl dX0_scaleRow_54 ?_
        refine lv_aload_n hx hb dX0_scaleRow_57 rfl (lv_at hl 1 rfl) ?_
        refine va_get (D := D) (ci := 0) (v := .ref (ad 21)) (C := RX0) (T := TX0) (N := 9) hx hb hts hin0 hown hK hP (6) (pw_at (by omega) (k50_0)) rfl 3 (by decide) q_f_RX0_36_Arithmetic_part_LWhole (fun _ h9 => h9) rfl dX0_scaleRow_58 ?_
        refine lv_aload hx hb dX0_scaleRow_61 (lv_at hl 5 rfl) ?_
        refine zc_Vv (As := [.ref (ad 21), .ref (ad sc9)]) (rest := []) (wr := []) ⟨hx, hb, hml, hown, hts⟩ (p_multiply l D cI cJ cE cF cR NP ad G3 23 21 sc9 96 96 rs 2 8 (((V (7 * i + j)).den : Int) / ((Int.gcd (((V (7 * i + j)).den : Int)) (((pe_sc V i j : Nat) : Int)) : Nat) : Int)) (((pe_sc V i j : Nat) : Int)) hq3.has hp3 ((hs1.keep (ho2 _ (by omega) (by omega)) (ho2 _ (by omega) (by omega))).keep (ho3 _ (by omega) (by omega) (by omega) (by omega) (by omega)) (ho3 _ (by omega) (by omega) (by omega) (by omega) (by omega))) (Int.lt_of_le_of_lt (Int.ediv_le_self _ (by omega)) hT2.1) hscb.1 (by decide) (by decide) (by decide) (by omega) (by omega) (by omega) (by omega) ⟨by omega, by omega, by omega⟩) (cwV 2 hts gX0_scaleRow_X9_multiply rfl rfl rfl (by decide +kernel) ⟨Nat.le_of_ble_eq_true rfl, Nat.le_of_ble_eq_true rfl⟩) hN hK hP hD hS hA (List.range NP) [] (pw_all _ _ _) rfl (pw_nd _) rfl (fun _ h9 => nomatch h9) (q0 := 23) (ci := 9) rfl rfl (pw_at (by omega) (h23)) rfl hl.1 (Nat.le_of_ble_eq_true rfl) dX0_scaleRow_63 ⟨by decide, by decide⟩ (fun w1 H locs hp hP hD hS => ?_)
        obtain ⟨G4, rfl, hw4, ho4⟩ := hp
        rw [pr_lcm (V (7 * i + j)).den_pos] at hw4
        have hP : va_P D vwCl (pw NP ad G4) H := hP
        have hD : va_D A (pw NP ad G4) := hD
        have k63_0 : G4 (6) = .inr (0, [.ref (ad 7), .ref (ad 10), .ref (ad 19), .ref (ad 21), .ref (ad 23), .ref (ad 25), .ref (ad 27), .ref (ad 29), .ref (ad 31)]) := (ho4 (6) (by omega) (by omega)).trans (k50_0)
        have k63_1 : G4 (2) = .inr (4, [.ref (ad 3), .ref (ad 4), .int (iZ (((n : Nat) : Int)))]) := (ho4 (2) (by omega) (by omega)).trans (k50_1)
        obtain ⟨cS4, gS4, hS4, hS4b⟩ := (((hs1.keep (ho2 _ (by omega) (by omega)) (ho2 _ (by omega) (by omega))).keep (ho3 _ (by omega) (by omega) (by omega) (by omega) (by omega)) (ho3 _ (by omega) (by omega) (by omega) (by omega) (by omega))).keep (ho4 _ (by omega) (by omega)) (ho4 _ (by omega) (by omega))).has
        refine lv_aload hx hb dX0_scaleRow_66 (lv_at hl 5 rfl) ?_
        refine lv_aload_n hx hb dX0_scaleRow_68 rfl (lv_at hl 1 rfl) ?_
        refine va_get (D := D) (ci := 0) (v := .ref (ad 23)) (C := RX0) (T := TX0) (N := 9) hx hb hts hin0 hown hK hP (6) (pw_at (by omega) (k63_0)) rfl 4 (by decide) q_f_RX0_39_Arithmetic_product_LWhole (fun _ h9 => h9) rfl dX0_scaleRow_69 ?_
        refine zc_Vv (As := [.ref (ad 23)]) (rest := []) (wr := []) ⟨hx, hb, hml, hown, hts⟩ (p_copyFrom l D cI cJ cE cF cR NP ad G4 sc9 23 rs 96 8 ((pe_sc V i (j + 1) : Nat) : Int) (((hs1.keep (ho2 _ (by omega) (by omega)) (ho2 _ (by omega) (by omega))).keep (ho3 _ (by omega) (by omega) (by omega) (by omega) (by omega)) (ho3 _ (by omega) (by omega) (by omega) (by omega) (by omega))).keep (ho4 _ (by omega) (by omega)) (ho4 _ (by omega) (by omega))).has hw4 hsc2.1 (by omega) (by omega) (by decide) (by omega) ⟨by omega, by omega⟩) (cwV 1 hts gX0_scaleRow_X9_copyFrom rfl rfl rfl (by decide +kernel) ⟨Nat.le_of_ble_eq_true rfl, Nat.le_of_ble_eq_true rfl⟩) hN hK hP hD hS hA (List.range NP) [] (pw_all _ _ _) rfl (pw_nd _) rfl (fun _ h9 => nomatch h9) (q0 := sc9) (ci := 9) rfl rfl (pw_at (by omega) (hS4)) rfl hl.1 (Nat.le_of_ble_eq_true rfl) dX0_scaleRow_72 ⟨by decide, by decide⟩ (fun w1 H locs hp hP hD hS => ?_)
        obtain ⟨G5, rfl, hw5, ho5⟩ := hp
        have hP : va_P D vwCl (pw NP ad G5) H := hP
        have hD : va_D A (pw NP ad G5) := hD
        have k72_0 : G5 (6) = .inr (0, [.ref (ad 7), .ref (ad 10), .ref (ad 19), .ref (ad 21), .ref (ad 23), .ref (ad 25), .ref (ad 27), .ref (ad 29), .ref (ad 31)]) := (ho5 (6) (by omega) (by omega)).trans (k63_0)
        have k72_1 : G5 (2) = .inr (4, [.ref (ad 3), .ref (ad 4), .int (iZ (((n : Nat) : Int)))]) := (ho5 (2) (by omega) (by omega)).trans (k63_1)
        refine lv_iinc (v := iZ (((j + 1 : Nat) : Int))) (lv' := [(5, .int (iZ (((j + 1 : Nat) : Int)))), (0, .ref (ad 6)), (1, .ref (ad 2)), (2, .int (iZ (((i : Nat) : Int)))), (3, .ref (ad ar9)), (4, .ref (ad sc9))]) hx hb dX0_scaleRow_75 hl (k := 0) rfl (by rw [show ((j + 1 : Nat) : Int) = ((j : Nat) : Int) + 1 by omega]; exact iZ_add _ _) (by decide) rfl (fun ls hl => ?_)
        refine lv_goto (tgt := 9) hx hb dX0_scaleRow_78 (by decide) ?_
        exact ih (j + 1) G5 H locs ls (by omega) ⟨(ho5 6 (by omega) (by omega)).trans ((ho4 6 (by omega) (by omega)).trans ((ho3 6 (by omega) (by omega) (by omega) (by omega) (by omega)).trans ((ho2 6 (by omega) (by omega)).trans hA1.1))), (hE3.keep (fun k q1 q2 => ho4 k (by omega) (by omega))).keep (fun k q1 q2 => ho5 k (by omega) (by omega)), (((((hA1.2.2.1).keep (ho2 _ (by omega) (by omega)) (ho2 _ (by omega) (by omega))).keep (ho3 _ (by omega) (by omega) (by omega) (by omega) (by omega)) (ho3 _ (by omega) (by omega) (by omega) (by omega) (by omega))).keep (ho4 _ (by omega) (by omega)) (ho4 _ (by omega) (by omega))).keep (ho5 _ (by omega) (by omega)) (ho5 _ (by omega) (by omega))), (((hp3.has).keep (ho4 _ (by omega) (by omega)) (ho4 _ (by omega) (by omega))).keep (ho5 _ (by omega) (by omega)) (ho5 _ (by omega) (by omega))), (hw4.has.keep (ho5 _ (by omega) (by omega)) (ho5 _ (by omega) (by omega))), (((((hA1.2.2.2.2.2.1).keep (ho2 _ (by omega) (by omega)) (ho2 _ (by omega) (by omega))).keep (ho3 _ (by omega) (by omega) (by omega) (by omega) (by omega)) (ho3 _ (by omega) (by omega) (by omega) (by omega) (by omega))).keep (ho4 _ (by omega) (by omega)) (ho4 _ (by omega) (by omega))).keep (ho5 _ (by omega) (by omega)) (ho5 _ (by omega) (by omega))), (((((hA1.2.2.2.2.2.2.1).keep (ho2 _ (by omega) (by omega)) (ho2 _ (by omega) (by omega))).keep (ho3 _ (by omega) (by omega) (by omega) (by omega) (by omega)) (ho3 _ (by omega) (by omega) (by omega) (by omega) (by omega))).keep (ho4 _ (by omega) (by omega)) (ho4 _ (by omega) (by omega))).keep (ho5 _ (by omega) (by omega)) (ho5 _ (by omega) (by omega))), (((((hA1.2.2.2.2.2.2.2.1).keep (ho2 _ (by omega) (by omega)) (ho2 _ (by omega) (by omega))).keep (ho3 _ (by omega) (by omega) (by omega) (by omega) (by omega)) (ho3 _ (by omega) (by omega) (by omega) (by omega) (by omega))).keep (ho4 _ (by omega) (by omega)) (ho4 _ (by omega) (by omega))).keep (ho5 _ (by omega) (by omega)) (ho5 _ (by omega) (by omega))), (((((hA1.2.2.2.2.2.2.2.2).keep (ho2 _ (by omega) (by omega)) (ho2 _ (by omega) (by omega))).keep (ho3 _ (by omega) (by omega) (by omega) (by omega) (by omega)) (ho3 _ (by omega) (by omega) (by omega) (by omega) (by omega))).keep (ho4 _ (by omega) (by omega)) (ho4 _ (by omega) (by omega))).keep (ho5 _ (by omega) (by omega)) (ho5 _ (by omega) (by omega)))⟩ hw5 (fun i9 h1 h2 h3 => (ho5 i9 (by omega) (by omega)).trans ((ho4 i9 (by omega) (by omega)).trans ((ho3 i9 (by omega) (by omega) (by omega) (by omega) (by omega)).trans ((ho2 i9 (by omega) (by omega)).trans (hof i9 h1 h2 h3))))) hP hD hS (lv_sub hl [0, 1, 2, 3, 4, 5] rfl)
  refine lv_aload hx hb dX0_scaleRow_0 (lv_at hl 4 rfl) ?_
  refine lv_lconst (v := lZ 1) hx hb dX0_scaleRow_2 rfl ?_
  refine zc_Vv (As := [.long (lZ (1))]) (rest := []) (wr := []) ⟨hx, hb, hml, hown, hts⟩ (p_assign l D cI cJ cE cF cR NP ad G sc9 rs 1 hsc0 ⟨by decide, by decide⟩ (Int.lt_of_lt_of_le (by decide : (1 : Int) < bg_p 1) (bg_p_le (by omega))) (by omega) (by omega)) (cwV 1 hts gX0_scaleRow_X9_assign rfl rfl rfl (by decide +kernel) ⟨Nat.le_of_ble_eq_true rfl, Nat.le_of_ble_eq_true rfl⟩) hN hK hP hD hS hA (List.range NP) [] (pw_all _ _ _) rfl (pw_nd _) rfl (fun _ h9 => nomatch h9) (q0 := sc9) (ci := 9) rfl rfl (pw_at (by omega) (hcs0)) rfl hl.1 (Nat.le_of_ble_eq_true rfl) dX0_scaleRow_3 ⟨by decide, by decide⟩ (fun w1 H locs hp hP hD hS => ?_)
  obtain ⟨G1, rfl, hw1, ho1⟩ := hp
  have hP : va_P D vwCl (pw NP ad G1) H := hP
  have hD : va_D A (pw NP ad G1) := hD
  refine lv_iconst (v := iZ 0) hx hb dX0_scaleRow_6 rfl ?_
  refine lv_istore (lv' := [(5, .int (iZ (0))), (0, .ref (ad 6)), (1, .ref (ad 2)), (2, .int (iZ (((i : Nat) : Int)))), (3, .ref (ad ar9)), (4, .ref (ad sc9))]) hx hb dX0_scaleRow_7 hl (by decide) rfl (fun ls hl => ?_)
  exact lp1 (n + 1) 0 G1 H locs ls (by omega) (hA0.keep (fun k q1 q2 => ho1 k (by omega) (by omega))) hw1 (fun i9 h1 h2 h3 => ho1 i9 h2 h3) hP hD hS (lv_sub hl [0, 1, 2, 3, 4, 5] rfl)
