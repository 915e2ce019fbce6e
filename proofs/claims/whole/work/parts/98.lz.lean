theorem lb_isSolvable {cI cJ cE cF cR : ClassId} {ad : Nat → Nat} {G1 G2 : Nat → va_E} {V : Nat → Rat} {n : Nat} {wd el k9 r : Int} (hh : (k9 = 0 ∧ ∃ z9 : Int, iR z9 ∧ el = 1 ∧ z9 = pe_svk (peM (pe V n n)) n (peR (pe V n n)) (n - peR (pe V n n)) ∧ pCs cI cJ cE cF cR 488 ad G1 (V) (n) (wd) (el) ∧ ∃ o1 : Nat → Int, G1 0 = aJ cJ 1 o1 ∧ o1 0 = z9) ∨ (k9 = 1 ∧ (el = 0) ∧ pCs cI cJ cE cF cR 488 ad G1 (V) (n) (wd) (el) ∧ ∃ o1 : Nat → Int, G1 0 = aJ cJ 1 o1)) (hm : ∃ tc : Int, ((el = 0 ∧ tc = 1) ∨ (el = 1 ∧ tc = 0 ∧ r = pe_svk (peM (pe V n n)) n (peR (pe V n n)) (n - peR (pe V n n)))) ∧ mSt cI cJ ad G2 (V) (n) (el) (tc)) : k9 = 0 → r = 0 ∨ r = 1 := by
  obtain ⟨tc, hm, _⟩ := hm
  intro h9
  rcases hh with ⟨a0, z9, a1, a2, _⟩ | ⟨a0, _⟩
  · rcases hm with ⟨b1, b2⟩ | ⟨b1, b2, b3⟩
    · exfalso; omega
    · rw [b3]; exact pe_svk01 _ _ _ _
  · exfalso; omega

theorem lb_isRight {cI cJ cE cF cR : ClassId} {ad : Nat → Nat} {G1 G2 : Nat → va_E} {V : Nat → Rat} {n : Nat} {wd el k9 r : Int} {y1 : Int} (hh : (k9 = 0 ∧ ∃ z9 : Int, iR z9 ∧ ¬ (y1 < 0 ∨ (n : Int) ≤ y1) ∧ ¬ (el = 0 ∨ pe_svk (peM (pe V n n)) n (peR (pe V n n)) (n - peR (pe V n n)) = 0) ∧ z9 = (if pe_rs V (pe V n n) n y1.toNat n = V (7 * y1.toNat + n) then 1 else 0) ∧ pCs cI cJ cE cF cR 488 ad G1 (V) (n) (wd) (el) ∧ ∃ o1 : Nat → Int, G1 0 = aJ cJ 1 o1 ∧ o1 0 = z9) ∨ (k9 = 1 ∧ (y1 < 0 ∨ (n : Int) ≤ y1) ∧ pCs cI cJ cE cF cR 488 ad G1 (V) (n) (wd) (el) ∧ ∃ o1 : Nat → Int, G1 0 = aJ cJ 1 o1) ∨ (k9 = 2 ∧ (¬ (y1 < 0 ∨ (n : Int) ≤ y1) ∧ (el = 0 ∨ pe_svk (peM (pe V n n)) n (peR (pe V n n)) (n - peR (pe V n n)) = 0)) ∧ pCs cI cJ cE cF cR 488 ad G1 (V) (n) (wd) (el) ∧ ∃ o1 : Nat → Int, G1 0 = aJ cJ 1 o1)) (hm : ∃ tc : Int, ((((y1 < 0 ∨ (n : Int) ≤ y1) ∧ tc = 1) ∨ (¬ (y1 < 0 ∨ (n : Int) ≤ y1) ∧ (el = 0 ∨ pe_svk (peM (pe V n n)) n (peR (pe V n n)) (n - peR (pe V n n)) = 0) ∧ tc = 2) ∨ (¬ (y1 < 0 ∨ (n : Int) ≤ y1) ∧ ¬ (el = 0 ∨ pe_svk (peM (pe V n n)) n (peR (pe V n n)) (n - peR (pe V n n)) = 0) ∧ tc = 0 ∧ r = if pe_rs V (pe V n n) n y1.toNat n = V (7 * y1.toNat + n) then 1 else 0))) ∧ mSt cI cJ ad G2 (V) (n) (el) (tc)) : k9 = 0 → r = 0 ∨ r = 1 := by
  obtain ⟨tc, hm, _⟩ := hm
  intro h9
  rcases hh with ⟨a0, z9, a1, a2, a3, _⟩ | ⟨a0, _⟩ | ⟨a0, _⟩
  · rcases hm with ⟨b1, b2⟩ | ⟨b1, b0, b2⟩ | ⟨b1, b0, b2, b3⟩
    · exfalso; omega
    · exfalso; omega
    · rw [b3]; split <;> omega
  · exfalso; omega
  · exfalso; omega

set_option maxHeartbeats 4000000 in
set_option maxRecDepth 100000 in
/-- the law, size -/
theorem lm_size {p : Program} {l : Launch} {e : Env} {s : State} {m : MethodId} {below : List Frame} {meth : Method} {c : Code} {H : Heap} {locs : List Loc} {cells slots : Nat} {Q : State → Prop} {ls : Array Slot} {b L : Nat} {xs : Nat → Int32} {D : va_G} {cI cJ cE cF cR : ClassId} {A : Nat → Prop} {ad : Nat → Nat} {G : Nat → va_E} (C : lwC p l s m c b L xs D cI cJ cE cF cR A) (j : Nat) (hj : 5 * j + 5 ≤ L) (hcs : cells + 1 ≤ 601024 ∧ slots + 6 ≤ 7293034) (hW : lwS cI cJ cE cF cR ad G) (hP : va_P D vwCl (pw 488 ad G) H) (hD : va_D A (pw 488 ad G)) (hS : va_S A s.heap H locs) (hl : lv_has ls 7 [(4, .int (iZ (((5 * j : Nat) : Int)))), (3, .ref (ad 0)), (2, .ref (ad 480)), (1, .ref (ad 1)), (0, .ref (b))]) (kk : ∀ (G1 : Nat → va_E) (H1 : Heap) (locs1 : List Loc) (ls1 : Array Slot), lwS cI cJ cE cF cR ad G1 → va_P D vwCl (pw 488 ad G1) H1 → va_D A (pw 488 ad G1) → va_S A s.heap H1 locs1 → lv_has ls1 7 [(4, .int (iZ (((5 * j : Nat) : Int)))), (3, .ref (ad 0)), (2, .ref (ad 480)), (1, .ref (ad 1)), (0, .ref (b))] → W p l e room_1 s m #[Value.ref b] below meth c H1 locs1 (cells + 1) (slots + 6) Q (F0 m 973 ls1 [])) : W p l e room_1 s m #[Value.ref b] below meth c H locs cells slots Q (F0 m 112 ls []) := by
  obtain ⟨hx, hb, hml, hown, hts, hst, hN, hX9, hHC, hK, hA, hXs, hbl, hbA, hL25⟩ := id C
  obtain ⟨V, n, wd, el, th, o, hC9, hM, ho0⟩ := hW
  obtain ⟨hcs1, hcs2⟩ := hcs
  refine lv_aload_n hx hb dL_law_112 rfl (lv_at hl 3 rfl) ?_
  refine lv_aload_n hx hb dL_law_113 rfl (lv_at hl 4 rfl) ?_
  refine lv_iload hx hb dL_law_114 (lv_at hl 0 rfl) ?_
  refine lv_iconst (v := iZ 1) hx hb dL_law_116 rfl ?_
  refine zr_iadd hx hb dL_law_117 ?_
  refine zl_sld hx hb hXs hbl hbA hS (5 * j + 1) (by omega) (by omega) hL25 dL_law_118 ?_
  refine zc_H (As := [.ref (ad 1), .int (iZ ((xs (5 * j + 1)).toInt))]) (rest := []) ⟨hx, hb, hml, hown, hts⟩ (h_size l D cI cJ cE cF cR hst 488 ad G ((xs (5 * j + 1)).toInt) V n wd el hC9 (by omega) (iZ_val (xs (5 * j + 1))).2) (vx_cwSW 2 hts gL_law_L_size rfl rfl rfl (by decide +kernel) ⟨Nat.le_of_ble_eq_true rfl, Nat.le_of_ble_eq_true rfl⟩) hN hX9 hHC hK hP hD hS hA rfl hl.1 (Nat.le_of_ble_eq_true rfl) dL_law_119 ⟨by show _ ≤ 601024; omega, by show _ ≤ 7293034; omega⟩ (fun k9 w1 H locs hk9 hp hP hD hS => ?_)
  obtain ⟨G1, rfl, hh, hG10, ho1⟩ := hp
  have hM1 : mSt cI cJ ad G1 V n el th := hM.keep ho1
  obtain ⟨fs1, hfs1⟩ := hM1.obj
  have hP : va_P D vwCl (pw 488 ad G1) H := hP
  have hD : va_D A (pw 488 ad G1) := hD
  refine lv_istore (lv' := [(5, .int (iZ (k9))), (4, .int (iZ (((5 * j : Nat) : Int)))), (3, .ref (ad 0)), (2, .ref (ad 480)), (1, .ref (ad 1)), (0, .ref (b))]) hx hb dL_law_122 hl (by decide) rfl (fun ls hl => ?_)
  refine lv_aload_n hx hb dL_law_124 rfl (lv_at hl 3 rfl) ?_
  refine lv_aload_n hx hb dL_law_125 rfl (lv_at hl 5 rfl) ?_
  refine lv_iload hx hb dL_law_126 (lv_at hl 1 rfl) ?_
  refine lv_iconst (v := iZ 1) hx hb dL_law_128 rfl ?_
  refine zr_iadd hx hb dL_law_129 ?_
  refine zl_sld hx hb hXs hbl hbA hS (5 * j + 1) (by omega) (by omega) hL25 dL_law_130 ?_
  refine zc_Vv (As := [.int (iZ ((xs (5 * j + 1)).toInt))]) (rest := []) (wr := []) ⟨hx, hb, hml, hown, hts⟩ (m_size l D cI cJ cE cF cR 488 ad G1 V n el th hM1 (by omega) ((xs (5 * j + 1)).toInt) (iZ_val (xs (5 * j + 1))).2) (cwV 1 hts gL_law_X11_size rfl rfl rfl (by decide +kernel) ⟨Nat.le_of_ble_eq_true rfl, Nat.le_of_ble_eq_true rfl⟩) hN hK hP hD hS hA (List.range 488) [] (pw_all _ _ _) rfl (pw_nd _) rfl (fun _ h9 => nomatch h9) (q0 := 480) (ci := 11) rfl rfl (pw_at (by omega) (hfs1)) rfl hl.1 (Nat.le_of_ble_eq_true rfl) dL_law_131 ⟨by show _ ≤ 601024; omega, by show _ ≤ 7293034; omega⟩ (fun w1 H locs hp hP hD hS => ?_)
  obtain ⟨G2, rfl, hm, ho2⟩ := hp
  obtain ⟨V1, n1, wd1, el1, tc, hC2, hM2, hG20, htk, hk012⟩ := la_size hh (hG10.trans ho0) hm ho2
  obtain ⟨fs2, hfs2⟩ := hM2.obj
  have hP : va_P D vwCl (pw 488 ad G2) H := hP
  have hD : va_D A (pw 488 ad G2) := hD
  refine lv_aload_n hx hb dL_law_134 rfl (lv_at hl 3 rfl) ?_
  refine zc_Vi (As := []) (rest := []) (wr := []) ⟨hx, hb, hml, hown, hts⟩ (m_thrown l D cI cJ cE cF cR 488 ad G2 V1 n1 el1 tc hM2 (by omega) ⟨by omega, by omega⟩) (cwV 0 hts gL_law_X11_thrown rfl rfl rfl (by decide +kernel) ⟨Nat.le_of_ble_eq_true rfl, Nat.le_of_ble_eq_true rfl⟩) hN hK hP hD hS hA (List.range 488) [] (pw_all _ _ _) rfl (pw_nd _) rfl (fun _ h9 => nomatch h9) (q0 := 480) (ci := 11) rfl rfl (pw_at (by omega) (hfs2)) rfl hl.1 (Nat.le_of_ble_eq_true rfl) dL_law_135 ⟨by show _ ≤ 601024; omega, by show _ ≤ 7293034; omega⟩ (fun t9 w1 H locs hz135 hp hP hD hS => ?_)
  obtain ⟨G3, rfl, ⟨hth, hM3⟩, ho3⟩ := hp
  have hG30 : G3 0 = aJ cJ 1 o := (ho3 0 (by omega)).trans hG20
  have hC3 : pCs cI cJ cE cF cR 488 ad G3 (V1) (n1) (wd1) (el1) := hC2.at0 (fun i _ h9 => ho3 i (Or.inl h9))
  have hP : va_P D vwCl (pw 488 ad G3) H := hP
  have hD : va_D A (pw 488 ad G3) := hD
  refine lv_iload hx hb dL_law_138 (lv_at hl 0 rfl) ?_
  refine zr_icmp_eq hx hb 145 ⟨by omega, by omega⟩ ⟨by omega, by omega⟩ dL_law_140 (by decide) (fun h_140 => ?_) (fun h_140 => ?_)
  · refine lv_goto (tgt := 973) hx hb dL_law_145 (by decide) ?_
    refine W.widen (k := cells + 1) (n := slots + 6) (by omega) (by omega) ?_
    exact kk G3 H locs ls ⟨V1, n1, wd1, el1, tc, o, hC3, hM3, hG30⟩ hP hD hS (lv_sub hl [1, 2, 3, 4, 5] rfl)
  · exfalso; omega

set_option maxHeartbeats 4000000 in
set_option maxRecDepth 100000 in
/-- the law, set -/
theorem lm_set {p : Program} {l : Launch} {e : Env} {s : State} {m : MethodId} {below : List Frame} {meth : Method} {c : Code} {H : Heap} {locs : List Loc} {cells slots : Nat} {Q : State → Prop} {ls : Array Slot} {b L : Nat} {xs : Nat → Int32} {D : va_G} {cI cJ cE cF cR : ClassId} {A : Nat → Prop} {ad : Nat → Nat} {G : Nat → va_E} (C : lwC p l s m c b L xs D cI cJ cE cF cR A) (j : Nat) (hj : 5 * j + 5 ≤ L) (hcs : cells + 1 ≤ 601024 ∧ slots + 6 ≤ 7293034) (hW : lwS cI cJ cE cF cR ad G) (hP : va_P D vwCl (pw 488 ad G) H) (hD : va_D A (pw 488 ad G)) (hS : va_S A s.heap H locs) (hl : lv_has ls 7 [(4, .int (iZ (((5 * j : Nat) : Int)))), (3, .ref (ad 0)), (2, .ref (ad 480)), (1, .ref (ad 1)), (0, .ref (b))]) (kk : ∀ (G1 : Nat → va_E) (H1 : Heap) (locs1 : List Loc) (ls1 : Array Slot), lwS cI cJ cE cF cR ad G1 → va_P D vwCl (pw 488 ad G1) H1 → va_D A (pw 488 ad G1) → va_S A s.heap H1 locs1 → lv_has ls1 7 [(4, .int (iZ (((5 * j : Nat) : Int)))), (3, .ref (ad 0)), (2, .ref (ad 480)), (1, .ref (ad 1)), (0, .ref (b))] → W p l e room_1 s m #[Value.ref b] below meth c H1 locs1 (cells + 1) (slots + 6) Q (F0 m 973 ls1 [])) : W p l e room_1 s m #[Value.ref b] below meth c H locs cells slots Q (F0 m 148 ls []) := by
  obtain ⟨hx, hb, hml, hown, hts, hst, hN, hX9, hHC, hK, hA, hXs, hbl, hbA, hL25⟩ := id C
  obtain ⟨V, n, wd, el, th, o, hC9, hM, ho0⟩ := hW
  obtain ⟨hcs1, hcs2⟩ := hcs
  refine lv_aload_n hx hb dL_law_148 rfl (lv_at hl 3 rfl) ?_
  refine lv_aload_n hx hb dL_law_149 rfl (lv_at hl 4 rfl) ?_
  refine lv_iload hx hb dL_law_150 (lv_at hl 0 rfl) ?_
  refine lv_iconst (v := iZ 1) hx hb dL_law_152 rfl ?_
  refine zr_iadd hx hb dL_law_153 ?_
  refine zl_sld hx hb hXs hbl hbA hS (5 * j + 1) (by omega) (by omega) hL25 dL_law_154 ?_
  refine lv_aload_n hx hb dL_law_155 rfl (lv_at hl 4 rfl) ?_
  refine lv_iload hx hb dL_law_156 (lv_at hl 0 rfl) ?_
  refine lv_iconst (v := iZ 2) hx hb dL_law_158 rfl ?_
  refine zr_iadd hx hb dL_law_159 ?_
  refine zl_sld hx hb hXs hbl hbA hS (5 * j + 2) (by omega) (by omega) hL25 dL_law_160 ?_
  refine lv_aload_n hx hb dL_law_161 rfl (lv_at hl 4 rfl) ?_
  refine lv_iload hx hb dL_law_162 (lv_at hl 0 rfl) ?_
  refine lv_iconst (v := iZ 3) hx hb dL_law_164 rfl ?_
  refine zr_iadd hx hb dL_law_165 ?_
  refine zl_sld hx hb hXs hbl hbA hS (5 * j + 3) (by omega) (by omega) hL25 dL_law_166 ?_
  refine lv_aload_n hx hb dL_law_167 rfl (lv_at hl 4 rfl) ?_
  refine lv_iload hx hb dL_law_168 (lv_at hl 0 rfl) ?_
  refine lv_iconst (v := iZ 4) hx hb dL_law_170 rfl ?_
  refine zr_iadd hx hb dL_law_171 ?_
  refine zl_sld hx hb hXs hbl hbA hS (5 * j + 4) (by omega) (by omega) hL25 dL_law_172 ?_
  refine lv_aload_n hx hb dL_law_173 rfl (lv_at hl 1 rfl) ?_
  refine zc_H (As := [.ref (ad 1), .int (iZ ((xs (5 * j + 1)).toInt)), .int (iZ ((xs (5 * j + 2)).toInt)), .int (iZ ((xs (5 * j + 3)).toInt)), .int (iZ ((xs (5 * j + 4)).toInt)), .ref (ad 0)]) (rest := []) ⟨hx, hb, hml, hown, hts⟩ (h_set l D cI cJ cE cF cR hst 488 ad G ((xs (5 * j + 1)).toInt) ((xs (5 * j + 2)).toInt) ((xs (5 * j + 3)).toInt) ((xs (5 * j + 4)).toInt) V n wd el hC9 (by omega) (iZ_val (xs (5 * j + 1))).2 (iZ_val (xs (5 * j + 2))).2 (iZ_val (xs (5 * j + 3))).2 (iZ_val (xs (5 * j + 4))).2 o ho0) (vx_cwSW 6 hts gL_law_L_set rfl rfl rfl (by decide +kernel) ⟨Nat.le_of_ble_eq_true rfl, Nat.le_of_ble_eq_true rfl⟩) hN hX9 hHC hK hP hD hS hA rfl hl.1 (Nat.le_of_ble_eq_true rfl) dL_law_174 ⟨by show _ ≤ 601024; omega, by show _ ≤ 7293034; omega⟩ (fun k9 w1 H locs hk9 hp hP hD hS => ?_)
  obtain ⟨G1, rfl, hh, ho1⟩ := hp
  have hM1 : mSt cI cJ ad G1 V n el th := hM.keep ho1
  obtain ⟨fs1, hfs1⟩ := hM1.obj
  have hP : va_P D vwCl (pw 488 ad G1) H := hP
  have hD : va_D A (pw 488 ad G1) := hD
  refine lv_istore (lv' := [(5, .int (iZ (k9))), (4, .int (iZ (((5 * j : Nat) : Int)))), (3, .ref (ad 0)), (2, .ref (ad 480)), (1, .ref (ad 1)), (0, .ref (b))]) hx hb dL_law_177 hl (by decide) rfl (fun ls hl => ?_)
  refine lv_aload_n hx hb dL_law_179 rfl (lv_at hl 3 rfl) ?_
  refine lv_aload_n hx hb dL_law_180 rfl (lv_at hl 5 rfl) ?_
  refine lv_iload hx hb dL_law_181 (lv_at hl 1 rfl) ?_
  refine lv_iconst (v := iZ 1) hx hb dL_law_183 rfl ?_
  refine zr_iadd hx hb dL_law_184 ?_
  refine zl_sld hx hb hXs hbl hbA hS (5 * j + 1) (by omega) (by omega) hL25 dL_law_185 ?_
  refine lv_aload_n hx hb dL_law_186 rfl (lv_at hl 5 rfl) ?_
  refine lv_iload hx hb dL_law_187 (lv_at hl 1 rfl) ?_
  refine lv_iconst (v := iZ 2) hx hb dL_law_189 rfl ?_
  refine zr_iadd hx hb dL_law_190 ?_
  refine zl_sld hx hb hXs hbl hbA hS (5 * j + 2) (by omega) (by omega) hL25 dL_law_191 ?_
  refine lv_aload_n hx hb dL_law_192 rfl (lv_at hl 5 rfl) ?_
  refine lv_iload hx hb dL_law_193 (lv_at hl 1 rfl) ?_
  refine lv_iconst (v := iZ 3) hx hb dL_law_195 rfl ?_
  refine zr_iadd hx hb dL_law_196 ?_
  refine zl_sld hx hb hXs hbl hbA hS (5 * j + 3) (by omega) (by omega) hL25 dL_law_197 ?_
  refine lv_aload_n hx hb dL_law_198 rfl (lv_at hl 5 rfl) ?_
  refine lv_iload hx hb dL_law_199 (lv_at hl 1 rfl) ?_
  refine lv_iconst (v := iZ 4) hx hb dL_law_201 rfl ?_
  refine zr_iadd hx hb dL_law_202 ?_
  refine zl_sld hx hb hXs hbl hbA hS (5 * j + 4) (by omega) (by omega) hL25 dL_law_203 ?_
  refine zc_Vi (As := [.int (iZ ((xs (5 * j + 1)).toInt)), .int (iZ ((xs (5 * j + 2)).toInt)), .int (iZ ((xs (5 * j + 3)).toInt)), .int (iZ ((xs (5 * j + 4)).toInt))]) (rest := []) (wr := []) ⟨hx, hb, hml, hown, hts⟩ (m_set l D cI cJ cE cF cR 488 ad G1 V n el th hM1 (by omega) ((xs (5 * j + 1)).toInt) ((xs (5 * j + 2)).toInt) ((xs (5 * j + 3)).toInt) ((xs (5 * j + 4)).toInt) (iZ_val (xs (5 * j + 1))).2 (iZ_val (xs (5 * j + 2))).2 (iZ_val (xs (5 * j + 3))).2 (iZ_val (xs (5 * j + 4))).2) (cwV 4 hts gL_law_X11_set rfl rfl rfl (by decide +kernel) ⟨Nat.le_of_ble_eq_true rfl, Nat.le_of_ble_eq_true rfl⟩) hN hK hP hD hS hA (List.range 488) [] (pw_all _ _ _) rfl (pw_nd _) rfl (fun _ h9 => nomatch h9) (q0 := 480) (ci := 11) rfl rfl (pw_at (by omega) (hfs1)) rfl hl.1 (Nat.le_of_ble_eq_true rfl) dL_law_204 ⟨by show _ ≤ 601024; omega, by show _ ≤ 7293034; omega⟩ (fun r9 w1 H locs hz204 hp hP hD hS => ?_)
  obtain ⟨G2, rfl, hm, ho2⟩ := hp
  obtain ⟨V1, n1, wd1, el1, tc, o1, hC2, hM2, hG20, htk, hob, hk012⟩ := la_set hh hm ho2
  obtain ⟨fs2, hfs2⟩ := hM2.obj
  have hP : va_P D vwCl (pw 488 ad G2) H := hP
  have hD : va_D A (pw 488 ad G2) := hD
  refine lv_istore (lv' := [(6, .int (iZ (r9))), (5, .int (iZ (k9))), (4, .int (iZ (((5 * j : Nat) : Int)))), (3, .ref (ad 0)), (2, .ref (ad 480)), (1, .ref (ad 1)), (0, .ref (b))]) hx hb dL_law_207 hl (by decide) rfl (fun ls hl => ?_)
  refine lv_aload_n hx hb dL_law_209 rfl (lv_at hl 4 rfl) ?_
  refine zc_Vi (As := []) (rest := []) (wr := []) ⟨hx, hb, hml, hown, hts⟩ (m_thrown l D cI cJ cE cF cR 488 ad G2 V1 n1 el1 tc hM2 (by omega) ⟨by omega, by omega⟩) (cwV 0 hts gL_law_X11_thrown rfl rfl rfl (by decide +kernel) ⟨Nat.le_of_ble_eq_true rfl, Nat.le_of_ble_eq_true rfl⟩) hN hK hP hD hS hA (List.range 488) [] (pw_all _ _ _) rfl (pw_nd _) rfl (fun _ h9 => nomatch h9) (q0 := 480) (ci := 11) rfl rfl (pw_at (by omega) (hfs2)) rfl hl.1 (Nat.le_of_ble_eq_true rfl) dL_law_210 ⟨by show _ ≤ 601024; omega, by show _ ≤ 7293034; omega⟩ (fun t9 w1 H locs hz210 hp hP hD hS => ?_)
  obtain ⟨G3, rfl, ⟨hth, hM3⟩, ho3⟩ := hp
  have hG30 : G3 0 = aJ cJ 1 o1 := (ho3 0 (by omega)).trans hG20
  have hC3 : pCs cI cJ cE cF cR 488 ad G3 (V1) (n1) (wd1) (el1) := hC2.at0 (fun i _ h9 => ho3 i (Or.inl h9))
  have hP : va_P D vwCl (pw 488 ad G3) H := hP
  have hD : va_D A (pw 488 ad G3) := hD
  refine lv_iload hx hb dL_law_213 (lv_at hl 1 rfl) ?_
  refine zr_icmp_eq hx hb 220 ⟨by omega, by omega⟩ ⟨by omega, by omega⟩ dL_law_215 (by decide) (fun h_215 => ?_) (fun h_215 => ?_)
  · refine lv_iload hx hb dL_law_220 (lv_at hl 1 rfl) ?_
    refine zr_if_ne hx hb 237 ⟨by omega, by omega⟩ dL_law_222 (by decide) (fun h_222 => ?_) (fun h_222 => ?_)
    · refine lv_goto (tgt := 973) hx hb dL_law_237 (by decide) ?_
      refine W.widen (k := cells + 1) (n := slots + 6) (by omega) (by omega) ?_
      exact kk G3 H locs ls ⟨V1, n1, wd1, el1, tc, o1, hC3, hM3, hG30⟩ hP hD hS (lv_sub hl [2, 3, 4, 5, 6] rfl)
    · refine lv_aload_n hx hb dL_law_225 rfl (lv_at hl 3 rfl) ?_
      refine lv_iconst (v := iZ 0) hx hb dL_law_226 rfl ?_
      have hor : o1 0 = r9 := hob (by omega)
      have hr1 := hz204.1
      have hr2 := hz204.2
      refine zr_lald hx hb hK hP (0) 1 (pw_at (by omega) (hG30)) rfl (0) (by omega) (by omega) (by omega) dL_law_227 ?_
      refine lv_iload hx hb dL_law_228 (lv_at hl 0 rfl) ?_
      refine zr_i2l hx hb hz204 dL_law_230 ?_
      refine zr_lcmp_eq hx hb 237 ⟨by omega, by omega⟩ ⟨by omega, by omega⟩ dL_law_231 dL_law_232 (by decide) (fun h_231 => ?_) (fun h_231 => ?_)
      · refine lv_goto (tgt := 973) hx hb dL_law_237 (by decide) ?_
        refine W.widen (k := cells + 1) (n := slots + 6) (by omega) (by omega) ?_
        exact kk G3 H locs ls ⟨V1, n1, wd1, el1, tc, o1, hC3, hM3, hG30⟩ hP hD hS (lv_sub hl [2, 3, 4, 5, 6] rfl)
      · exfalso; omega
  · exfalso; omega

set_option maxHeartbeats 4000000 in
set_option maxRecDepth 100000 in
/-- the law, right -/
theorem lm_right {p : Program} {l : Launch} {e : Env} {s : State} {m : MethodId} {below : List Frame} {meth : Method} {c : Code} {H : Heap} {locs : List Loc} {cells slots : Nat} {Q : State → Prop} {ls : Array Slot} {b L : Nat} {xs : Nat → Int32} {D : va_G} {cI cJ cE cF cR : ClassId} {A : Nat → Prop} {ad : Nat → Nat} {G : Nat → va_E} (C : lwC p l s m c b L xs D cI cJ cE cF cR A) (j : Nat) (hj : 5 * j + 5 ≤ L) (hcs : cells + 1 ≤ 601024 ∧ slots + 6 ≤ 7293034) (hW : lwS cI cJ cE cF cR ad G) (hP : va_P D vwCl (pw 488 ad G) H) (hD : va_D A (pw 488 ad G)) (hS : va_S A s.heap H locs) (hl : lv_has ls 7 [(4, .int (iZ (((5 * j : Nat) : Int)))), (3, .ref (ad 0)), (2, .ref (ad 480)), (1, .ref (ad 1)), (0, .ref (b))]) (kk : ∀ (G1 : Nat → va_E) (H1 : Heap) (locs1 : List Loc) (ls1 : Array Slot), lwS cI cJ cE cF cR ad G1 → va_P D vwCl (pw 488 ad G1) H1 → va_D A (pw 488 ad G1) → va_S A s.heap H1 locs1 → lv_has ls1 7 [(4, .int (iZ (((5 * j : Nat) : Int)))), (3, .ref (ad 0)), (2, .ref (ad 480)), (1, .ref (ad 1)), (0, .ref (b))] → W p l e room_1 s m #[Value.ref b] below meth c H1 locs1 (cells + 1) (slots + 6) Q (F0 m 973 ls1 [])) : W p l e room_1 s m #[Value.ref b] below meth c H locs cells slots Q (F0 m 240 ls []) := by
  obtain ⟨hx, hb, hml, hown, hts, hst, hN, hX9, hHC, hK, hA, hXs, hbl, hbA, hL25⟩ := id C
  obtain ⟨V, n, wd, el, th, o, hC9, hM, ho0⟩ := hW
  obtain ⟨hcs1, hcs2⟩ := hcs
  refine lv_aload_n hx hb dL_law_240 rfl (lv_at hl 3 rfl) ?_
  refine lv_aload_n hx hb dL_law_241 rfl (lv_at hl 4 rfl) ?_
  refine lv_iload hx hb dL_law_242 (lv_at hl 0 rfl) ?_
  refine lv_iconst (v := iZ 1) hx hb dL_law_244 rfl ?_
  refine zr_iadd hx hb dL_law_245 ?_
  refine zl_sld hx hb hXs hbl hbA hS (5 * j + 1) (by omega) (by omega) hL25 dL_law_246 ?_
  refine lv_aload_n hx hb dL_law_247 rfl (lv_at hl 4 rfl) ?_
  refine lv_iload hx hb dL_law_248 (lv_at hl 0 rfl) ?_
  refine lv_iconst (v := iZ 2) hx hb dL_law_250 rfl ?_
  refine zr_iadd hx hb dL_law_251 ?_
  refine zl_sld hx hb hXs hbl hbA hS (5 * j + 2) (by omega) (by omega) hL25 dL_law_252 ?_
  refine lv_aload_n hx hb dL_law_253 rfl (lv_at hl 4 rfl) ?_
  refine lv_iload hx hb dL_law_254 (lv_at hl 0 rfl) ?_
  refine lv_iconst (v := iZ 3) hx hb dL_law_256 rfl ?_
  refine zr_iadd hx hb dL_law_257 ?_
  refine zl_sld hx hb hXs hbl hbA hS (5 * j + 3) (by omega) (by omega) hL25 dL_law_258 ?_
  refine lv_aload_n hx hb dL_law_259 rfl (lv_at hl 1 rfl) ?_
  refine zc_H (As := [.ref (ad 1), .int (iZ ((xs (5 * j + 1)).toInt)), .int (iZ ((xs (5 * j + 2)).toInt)), .int (iZ ((xs (5 * j + 3)).toInt)), .ref (ad 0)]) (rest := []) ⟨hx, hb, hml, hown, hts⟩ (h_right l D cI cJ cE cF cR hst 488 ad G ((xs (5 * j + 1)).toInt) ((xs (5 * j + 2)).toInt) ((xs (5 * j + 3)).toInt) V n wd el hC9 (by omega) (iZ_val (xs (5 * j + 1))).2 (iZ_val (xs (5 * j + 2))).2 (iZ_val (xs (5 * j + 3))).2 o ho0) (vx_cwSW 5 hts gL_law_L_right rfl rfl rfl (by decide +kernel) ⟨Nat.le_of_ble_eq_true rfl, Nat.le_of_ble_eq_true rfl⟩) hN hX9 hHC hK hP hD hS hA rfl hl.1 (Nat.le_of_ble_eq_true rfl) dL_law_260 ⟨by show _ ≤ 601024; omega, by show _ ≤ 7293034; omega⟩ (fun k9 w1 H locs hk9 hp hP hD hS => ?_)
  obtain ⟨G1, rfl, hh, ho1⟩ := hp
  have hM1 : mSt cI cJ ad G1 V n el th := hM.keep ho1
  obtain ⟨fs1, hfs1⟩ := hM1.obj
  have hP : va_P D vwCl (pw 488 ad G1) H := hP
  have hD : va_D A (pw 488 ad G1) := hD
  refine lv_istore (lv' := [(5, .int (iZ (k9))), (4, .int (iZ (((5 * j : Nat) : Int)))), (3, .ref (ad 0)), (2, .ref (ad 480)), (1, .ref (ad 1)), (0, .ref (b))]) hx hb dL_law_263 hl (by decide) rfl (fun ls hl => ?_)
  refine lv_aload_n hx hb dL_law_265 rfl (lv_at hl 3 rfl) ?_
  refine lv_aload_n hx hb dL_law_266 rfl (lv_at hl 5 rfl) ?_
  refine lv_iload hx hb dL_law_267 (lv_at hl 1 rfl) ?_
  refine lv_iconst (v := iZ 1) hx hb dL_law_269 rfl ?_
  refine zr_iadd hx hb dL_law_270 ?_
  refine zl_sld hx hb hXs hbl hbA hS (5 * j + 1) (by omega) (by omega) hL25 dL_law_271 ?_
  refine lv_aload_n hx hb dL_law_272 rfl (lv_at hl 5 rfl) ?_
  refine lv_iload hx hb dL_law_273 (lv_at hl 1 rfl) ?_
  refine lv_iconst (v := iZ 2) hx hb dL_law_275 rfl ?_
  refine zr_iadd hx hb dL_law_276 ?_
  refine zl_sld hx hb hXs hbl hbA hS (5 * j + 2) (by omega) (by omega) hL25 dL_law_277 ?_
  refine lv_aload_n hx hb dL_law_278 rfl (lv_at hl 5 rfl) ?_
  refine lv_iload hx hb dL_law_279 (lv_at hl 1 rfl) ?_
  refine lv_iconst (v := iZ 3) hx hb dL_law_281 rfl ?_
  refine zr_iadd hx hb dL_law_282 ?_
  refine zl_sld hx hb hXs hbl hbA hS (5 * j + 3) (by omega) (by omega) hL25 dL_law_283 ?_
  refine zc_Vi (As := [.int (iZ ((xs (5 * j + 1)).toInt)), .int (iZ ((xs (5 * j + 2)).toInt)), .int (iZ ((xs (5 * j + 3)).toInt))]) (rest := []) (wr := []) ⟨hx, hb, hml, hown, hts⟩ (m_right l D cI cJ cE cF cR 488 ad G1 V n el th hM1 (by omega) ((xs (5 * j + 1)).toInt) ((xs (5 * j + 2)).toInt) ((xs (5 * j + 3)).toInt) (iZ_val (xs (5 * j + 1))).2 (iZ_val (xs (5 * j + 2))).2 (iZ_val (xs (5 * j + 3))).2) (cwV 3 hts gL_law_X11_right rfl rfl rfl (by decide +kernel) ⟨Nat.le_of_ble_eq_true rfl, Nat.le_of_ble_eq_true rfl⟩) hN hK hP hD hS hA (List.range 488) [] (pw_all _ _ _) rfl (pw_nd _) rfl (fun _ h9 => nomatch h9) (q0 := 480) (ci := 11) rfl rfl (pw_at (by omega) (hfs1)) rfl hl.1 (Nat.le_of_ble_eq_true rfl) dL_law_284 ⟨by show _ ≤ 601024; omega, by show _ ≤ 7293034; omega⟩ (fun r9 w1 H locs hz284 hp hP hD hS => ?_)
  obtain ⟨G2, rfl, hm, ho2⟩ := hp
  obtain ⟨V1, n1, wd1, el1, tc, o1, hC2, hM2, hG20, htk, hob, hk012⟩ := la_right hh hm ho2
  obtain ⟨fs2, hfs2⟩ := hM2.obj
  have hP : va_P D vwCl (pw 488 ad G2) H := hP
  have hD : va_D A (pw 488 ad G2) := hD
  refine lv_istore (lv' := [(6, .int (iZ (r9))), (5, .int (iZ (k9))), (4, .int (iZ (((5 * j : Nat) : Int)))), (3, .ref (ad 0)), (2, .ref (ad 480)), (1, .ref (ad 1)), (0, .ref (b))]) hx hb dL_law_287 hl (by decide) rfl (fun ls hl => ?_)
  refine lv_aload_n hx hb dL_law_289 rfl (lv_at hl 4 rfl) ?_
  refine zc_Vi (As := []) (rest := []) (wr := []) ⟨hx, hb, hml, hown, hts⟩ (m_thrown l D cI cJ cE cF cR 488 ad G2 V1 n1 el1 tc hM2 (by omega) ⟨by omega, by omega⟩) (cwV 0 hts gL_law_X11_thrown rfl rfl rfl (by decide +kernel) ⟨Nat.le_of_ble_eq_true rfl, Nat.le_of_ble_eq_true rfl⟩) hN hK hP hD hS hA (List.range 488) [] (pw_all _ _ _) rfl (pw_nd _) rfl (fun _ h9 => nomatch h9) (q0 := 480) (ci := 11) rfl rfl (pw_at (by omega) (hfs2)) rfl hl.1 (Nat.le_of_ble_eq_true rfl) dL_law_290 ⟨by show _ ≤ 601024; omega, by show _ ≤ 7293034; omega⟩ (fun t9 w1 H locs hz290 hp hP hD hS => ?_)
  obtain ⟨G3, rfl, ⟨hth, hM3⟩, ho3⟩ := hp
  have hG30 : G3 0 = aJ cJ 1 o1 := (ho3 0 (by omega)).trans hG20
  have hC3 : pCs cI cJ cE cF cR 488 ad G3 (V1) (n1) (wd1) (el1) := hC2.at0 (fun i _ h9 => ho3 i (Or.inl h9))
  have hP : va_P D vwCl (pw 488 ad G3) H := hP
  have hD : va_D A (pw 488 ad G3) := hD
  refine lv_iload hx hb dL_law_293 (lv_at hl 1 rfl) ?_
  refine zr_icmp_eq hx hb 300 ⟨by omega, by omega⟩ ⟨by omega, by omega⟩ dL_law_295 (by decide) (fun h_295 => ?_) (fun h_295 => ?_)
  · refine lv_iload hx hb dL_law_300 (lv_at hl 1 rfl) ?_
    refine zr_if_ne hx hb 317 ⟨by omega, by omega⟩ dL_law_302 (by decide) (fun h_302 => ?_) (fun h_302 => ?_)
    · refine lv_goto (tgt := 973) hx hb dL_law_317 (by decide) ?_
      refine W.widen (k := cells + 1) (n := slots + 6) (by omega) (by omega) ?_
      exact kk G3 H locs ls ⟨V1, n1, wd1, el1, tc, o1, hC3, hM3, hG30⟩ hP hD hS (lv_sub hl [2, 3, 4, 5, 6] rfl)
    · refine lv_aload_n hx hb dL_law_305 rfl (lv_at hl 3 rfl) ?_
      refine lv_iconst (v := iZ 0) hx hb dL_law_306 rfl ?_
      have hor : o1 0 = r9 := hob (by omega)
      have hr1 := hz284.1
      have hr2 := hz284.2
      refine zr_lald hx hb hK hP (0) 1 (pw_at (by omega) (hG30)) rfl (0) (by omega) (by omega) (by omega) dL_law_307 ?_
      refine lv_iload hx hb dL_law_308 (lv_at hl 0 rfl) ?_
      refine zr_i2l hx hb hz284 dL_law_310 ?_
      refine zr_lcmp_eq hx hb 317 ⟨by omega, by omega⟩ ⟨by omega, by omega⟩ dL_law_311 dL_law_312 (by decide) (fun h_311 => ?_) (fun h_311 => ?_)
      · refine lv_goto (tgt := 973) hx hb dL_law_317 (by decide) ?_
        refine W.widen (k := cells + 1) (n := slots + 6) (by omega) (by omega) ?_
        exact kk G3 H locs ls ⟨V1, n1, wd1, el1, tc, o1, hC3, hM3, hG30⟩ hP hD hS (lv_sub hl [2, 3, 4, 5, 6] rfl)
      · exfalso; omega
  · exfalso; omega

set_option maxHeartbeats 4000000 in
set_option maxRecDepth 100000 in
/-- the law, eliminate -/
theorem lm_eliminate {p : Program} {l : Launch} {e : Env} {s : State} {m : MethodId} {below : List Frame} {meth : Method} {c : Code} {H : Heap} {locs : List Loc} {cells slots : Nat} {Q : State → Prop} {ls : Array Slot} {b L : Nat} {xs : Nat → Int32} {D : va_G} {cI cJ cE cF cR : ClassId} {A : Nat → Prop} {ad : Nat → Nat} {G : Nat → va_E} (C : lwC p l s m c b L xs D cI cJ cE cF cR A) (j : Nat) (hj : 5 * j + 5 ≤ L) (hcs : cells + 1 ≤ 601024 ∧ slots + 6 ≤ 7293034) (hW : lwS cI cJ cE cF cR ad G) (hP : va_P D vwCl (pw 488 ad G) H) (hD : va_D A (pw 488 ad G)) (hS : va_S A s.heap H locs) (hl : lv_has ls 7 [(4, .int (iZ (((5 * j : Nat) : Int)))), (3, .ref (ad 0)), (2, .ref (ad 480)), (1, .ref (ad 1)), (0, .ref (b))]) (kk : ∀ (G1 : Nat → va_E) (H1 : Heap) (locs1 : List Loc) (ls1 : Array Slot), lwS cI cJ cE cF cR ad G1 → va_P D vwCl (pw 488 ad G1) H1 → va_D A (pw 488 ad G1) → va_S A s.heap H1 locs1 → lv_has ls1 7 [(4, .int (iZ (((5 * j : Nat) : Int)))), (3, .ref (ad 0)), (2, .ref (ad 480)), (1, .ref (ad 1)), (0, .ref (b))] → W p l e room_1 s m #[Value.ref b] below meth c H1 locs1 (cells + 1) (slots + 6) Q (F0 m 973 ls1 [])) : W p l e room_1 s m #[Value.ref b] below meth c H locs cells slots Q (F0 m 320 ls []) := by
  obtain ⟨hx, hb, hml, hown, hts, hst, hN, hX9, hHC, hK, hA, hXs, hbl, hbA, hL25⟩ := id C
  obtain ⟨V, n, wd, el, th, o, hC9, hM, ho0⟩ := hW
  obtain ⟨hcs1, hcs2⟩ := hcs
  by_cases hcap : (xs (5 * j + 1)).toInt < 0 ∨ 40000 < (xs (5 * j + 1)).toInt
  · refine lv_aload_n hx hb dL_law_320 rfl (lv_at hl 3 rfl) ?_
    refine lv_aload_n hx hb dL_law_321 rfl (lv_at hl 4 rfl) ?_
    refine lv_iload hx hb dL_law_322 (lv_at hl 0 rfl) ?_
    refine lv_iconst (v := iZ 1) hx hb dL_law_324 rfl ?_
    refine zr_iadd hx hb dL_law_325 ?_
    refine zl_sld hx hb hXs hbl hbA hS (5 * j + 1) (by omega) (by omega) hL25 dL_law_326 ?_
    refine lv_aload_n hx hb dL_law_327 rfl (lv_at hl 1 rfl) ?_
    refine zc_H (As := [.ref (ad 1), .int (iZ ((xs (5 * j + 1)).toInt)), .ref (ad 0)]) (rest := []) ⟨hx, hb, hml, hown, hts⟩ (h_eliminate l D cI cJ cE cF cR hst 488 ad G ((xs (5 * j + 1)).toInt) V n wd el hC9 (by omega) (iZ_val (xs (5 * j + 1))).2 o ho0) (vx_cwSW 3 hts gL_law_L_eliminate rfl rfl rfl (by decide +kernel) ⟨Nat.le_of_ble_eq_true rfl, Nat.le_of_ble_eq_true rfl⟩) hN hX9 hHC hK hP hD hS hA rfl hl.1 (Nat.le_of_ble_eq_true rfl) dL_law_328 ⟨by show _ ≤ 601024; omega, by show _ ≤ 7293034; omega⟩ (fun k9 w1 H locs hk9 hp hP hD hS => ?_)
    obtain ⟨G1, rfl, hh, ho1⟩ := hp
    have hM1 : mSt cI cJ ad G1 V n el th := hM.keep ho1
    obtain ⟨fs1, hfs1⟩ := hM1.obj
    have hP : va_P D vwCl (pw 488 ad G1) H := hP
    have hD : va_D A (pw 488 ad G1) := hD
    refine lv_istore (lv' := [(5, .int (iZ (k9))), (4, .int (iZ (((5 * j : Nat) : Int)))), (3, .ref (ad 0)), (2, .ref (ad 480)), (1, .ref (ad 1)), (0, .ref (b))]) hx hb dL_law_331 hl (by decide) rfl (fun ls hl => ?_)
    refine lv_aload_n hx hb dL_law_333 rfl (lv_at hl 3 rfl) ?_
    refine lv_aload_n hx hb dL_law_334 rfl (lv_at hl 5 rfl) ?_
    refine lv_iload hx hb dL_law_335 (lv_at hl 1 rfl) ?_
    refine lv_iconst (v := iZ 1) hx hb dL_law_337 rfl ?_
    refine zr_iadd hx hb dL_law_338 ?_
    refine zl_sld hx hb hXs hbl hbA hS (5 * j + 1) (by omega) (by omega) hL25 dL_law_339 ?_
    refine zc_Vi (As := [.int (iZ ((xs (5 * j + 1)).toInt))]) (rest := []) (wr := []) ⟨hx, hb, hml, hown, hts⟩ (m_elim0 l D cI cJ cE cF cR 488 ad G1 V n el th hM1 (by omega) ((xs (5 * j + 1)).toInt) (iZ_val (xs (5 * j + 1))).2 hcap) (cwV 1 hts gL_law_X11_eliminate rfl rfl rfl (by decide +kernel) ⟨Nat.le_of_ble_eq_true rfl, Nat.le_of_ble_eq_true rfl⟩) hN hK hP hD hS hA (List.range 488) [] (pw_all _ _ _) rfl (pw_nd _) rfl (fun _ h9 => nomatch h9) (q0 := 480) (ci := 11) rfl rfl (pw_at (by omega) (hfs1)) rfl hl.1 (Nat.le_of_ble_eq_true rfl) dL_law_340 ⟨by show _ ≤ 601024; omega, by show _ ≤ 7293034; omega⟩ (fun r9 w1 H locs hz340 hp hP hD hS => ?_)
    obtain ⟨G2, rfl, hm, ho2⟩ := hp
    obtain ⟨V1, n1, wd1, el1, tc, o1, hC2, hM2, hG20, htk, hob, hk012⟩ := la_elim0 hh hm ho2 hcap
    obtain ⟨fs2, hfs2⟩ := hM2.obj
    have hP : va_P D vwCl (pw 488 ad G2) H := hP
    have hD : va_D A (pw 488 ad G2) := hD
    refine lv_istore (lv' := [(6, .int (iZ (r9))), (5, .int (iZ (k9))), (4, .int (iZ (((5 * j : Nat) : Int)))), (3, .ref (ad 0)), (2, .ref (ad 480)), (1, .ref (ad 1)), (0, .ref (b))]) hx hb dL_law_343 hl (by decide) rfl (fun ls hl => ?_)
    refine lv_aload_n hx hb dL_law_345 rfl (lv_at hl 4 rfl) ?_
    refine zc_Vi (As := []) (rest := []) (wr := []) ⟨hx, hb, hml, hown, hts⟩ (m_thrown l D cI cJ cE cF cR 488 ad G2 V1 n1 el1 tc hM2 (by omega) ⟨by omega, by omega⟩) (cwV 0 hts gL_law_X11_thrown rfl rfl rfl (by decide +kernel) ⟨Nat.le_of_ble_eq_true rfl, Nat.le_of_ble_eq_true rfl⟩) hN hK hP hD hS hA (List.range 488) [] (pw_all _ _ _) rfl (pw_nd _) rfl (fun _ h9 => nomatch h9) (q0 := 480) (ci := 11) rfl rfl (pw_at (by omega) (hfs2)) rfl hl.1 (Nat.le_of_ble_eq_true rfl) dL_law_346 ⟨by show _ ≤ 601024; omega, by show _ ≤ 7293034; omega⟩ (fun t9 w1 H locs hz346 hp hP hD hS => ?_)
    obtain ⟨G3, rfl, ⟨hth, hM3⟩, ho3⟩ := hp
    have hG30 : G3 0 = aJ cJ 1 o1 := (ho3 0 (by omega)).trans hG20
    have hC3 : pCs cI cJ cE cF cR 488 ad G3 (V1) (n1) (wd1) (el1) := hC2.at0 (fun i _ h9 => ho3 i (Or.inl h9))
    have hP : va_P D vwCl (pw 488 ad G3) H := hP
    have hD : va_D A (pw 488 ad G3) := hD
    refine lv_iload hx hb dL_law_349 (lv_at hl 1 rfl) ?_
    refine zr_icmp_eq hx hb 356 ⟨by omega, by omega⟩ ⟨by omega, by omega⟩ dL_law_351 (by decide) (fun h_351 => ?_) (fun h_351 => ?_)
    · refine lv_iload hx hb dL_law_356 (lv_at hl 1 rfl) ?_
      refine zr_if_ne hx hb 373 ⟨by omega, by omega⟩ dL_law_358 (by decide) (fun h_358 => ?_) (fun h_358 => ?_)
      · refine lv_goto (tgt := 973) hx hb dL_law_373 (by decide) ?_
        refine W.widen (k := cells + 1) (n := slots + 6) (by omega) (by omega) ?_
        exact kk G3 H locs ls ⟨V1, n1, wd1, el1, tc, o1, hC3, hM3, hG30⟩ hP hD hS (lv_sub hl [2, 3, 4, 5, 6] rfl)
      · refine lv_aload_n hx hb dL_law_361 rfl (lv_at hl 3 rfl) ?_
        refine lv_iconst (v := iZ 0) hx hb dL_law_362 rfl ?_
        have hor : o1 0 = r9 := hob (by omega)
        have hr1 := hz340.1
        have hr2 := hz340.2
        refine zr_lald hx hb hK hP (0) 1 (pw_at (by omega) (hG30)) rfl (0) (by omega) (by omega) (by omega) dL_law_363 ?_
        refine lv_iload hx hb dL_law_364 (lv_at hl 0 rfl) ?_
        refine zr_i2l hx hb hz340 dL_law_366 ?_
        refine zr_lcmp_eq hx hb 373 ⟨by omega, by omega⟩ ⟨by omega, by omega⟩ dL_law_367 dL_law_368 (by decide) (fun h_367 => ?_) (fun h_367 => ?_)
        · refine lv_goto (tgt := 973) hx hb dL_law_373 (by decide) ?_
          refine W.widen (k := cells + 1) (n := slots + 6) (by omega) (by omega) ?_
          exact kk G3 H locs ls ⟨V1, n1, wd1, el1, tc, o1, hC3, hM3, hG30⟩ hP hD hS (lv_sub hl [2, 3, 4, 5, 6] rfl)
        · exfalso; omega
    · exfalso; omega
  · refine lv_aload_n hx hb dL_law_320 rfl (lv_at hl 3 rfl) ?_
    refine lv_aload_n hx hb dL_law_321 rfl (lv_at hl 4 rfl) ?_
    refine lv_iload hx hb dL_law_322 (lv_at hl 0 rfl) ?_
    refine lv_iconst (v := iZ 1) hx hb dL_law_324 rfl ?_
    refine zr_iadd hx hb dL_law_325 ?_
    refine zl_sld hx hb hXs hbl hbA hS (5 * j + 1) (by omega) (by omega) hL25 dL_law_326 ?_
    refine lv_aload_n hx hb dL_law_327 rfl (lv_at hl 1 rfl) ?_
    refine zc_H (As := [.ref (ad 1), .int (iZ ((xs (5 * j + 1)).toInt)), .ref (ad 0)]) (rest := []) ⟨hx, hb, hml, hown, hts⟩ (h_eliminate l D cI cJ cE cF cR hst 488 ad G ((xs (5 * j + 1)).toInt) V n wd el hC9 (by omega) (iZ_val (xs (5 * j + 1))).2 o ho0) (vx_cwSW 3 hts gL_law_L_eliminate rfl rfl rfl (by decide +kernel) ⟨Nat.le_of_ble_eq_true rfl, Nat.le_of_ble_eq_true rfl⟩) hN hX9 hHC hK hP hD hS hA rfl hl.1 (Nat.le_of_ble_eq_true rfl) dL_law_328 ⟨by show _ ≤ 601024; omega, by show _ ≤ 7293034; omega⟩ (fun k9 w1 H locs hk9 hp hP hD hS => ?_)
    obtain ⟨G1, rfl, hh, ho1⟩ := hp
    have hM1 : mSt cI cJ ad G1 V n el th := hM.keep ho1
    obtain ⟨fs1, hfs1⟩ := hM1.obj
    have hP : va_P D vwCl (pw 488 ad G1) H := hP
    have hD : va_D A (pw 488 ad G1) := hD
    refine lv_istore (lv' := [(5, .int (iZ (k9))), (4, .int (iZ (((5 * j : Nat) : Int)))), (3, .ref (ad 0)), (2, .ref (ad 480)), (1, .ref (ad 1)), (0, .ref (b))]) hx hb dL_law_331 hl (by decide) rfl (fun ls hl => ?_)
    refine lv_aload_n hx hb dL_law_333 rfl (lv_at hl 3 rfl) ?_
    refine lv_aload_n hx hb dL_law_334 rfl (lv_at hl 5 rfl) ?_
    refine lv_iload hx hb dL_law_335 (lv_at hl 1 rfl) ?_
    refine lv_iconst (v := iZ 1) hx hb dL_law_337 rfl ?_
    refine zr_iadd hx hb dL_law_338 ?_
    refine zl_sld hx hb hXs hbl hbA hS (5 * j + 1) (by omega) (by omega) hL25 dL_law_339 ?_
    refine zc_Vi (As := [.int (iZ ((xs (5 * j + 1)).toInt))]) (rest := []) (wr := []) ⟨hx, hb, hml, hown, hts⟩ (m_elim1 l D cI cJ cE cF cR 488 ad G1 V n el th hM1 (by omega) ((xs (5 * j + 1)).toInt) (iZ_val (xs (5 * j + 1))).2 (by omega)) (cwV 1 hts gL_law_X11_eliminate rfl rfl rfl (by decide +kernel) ⟨Nat.le_of_ble_eq_true rfl, Nat.le_of_ble_eq_true rfl⟩) hN hK hP hD hS hA (List.range 488) [] (pw_all _ _ _) rfl (pw_nd _) rfl (fun _ h9 => nomatch h9) (q0 := 480) (ci := 11) rfl rfl (pw_at (by omega) (hfs1)) rfl hl.1 (Nat.le_of_ble_eq_true rfl) dL_law_340 ⟨by show _ ≤ 601024; omega, by show _ ≤ 7293034; omega⟩ (fun r9 w1 H locs hz340 hp hP hD hS => ?_)
    obtain ⟨G2, rfl, hm, ho2⟩ := hp
    obtain ⟨V1, n1, wd1, el1, tc, o1, hC2, hM2, hG20, htk, hob, hk012⟩ := la_eliminate hh hm ho2 hcap
    obtain ⟨fs2, hfs2⟩ := hM2.obj
    have hP : va_P D vwCl (pw 488 ad G2) H := hP
    have hD : va_D A (pw 488 ad G2) := hD
    refine lv_istore (lv' := [(6, .int (iZ (r9))), (5, .int (iZ (k9))), (4, .int (iZ (((5 * j : Nat) : Int)))), (3, .ref (ad 0)), (2, .ref (ad 480)), (1, .ref (ad 1)), (0, .ref (b))]) hx hb dL_law_343 hl (by decide) rfl (fun ls hl => ?_)
    refine lv_aload_n hx hb dL_law_345 rfl (lv_at hl 4 rfl) ?_
    refine zc_Vi (As := []) (rest := []) (wr := []) ⟨hx, hb, hml, hown, hts⟩ (m_thrown l D cI cJ cE cF cR 488 ad G2 V1 n1 el1 tc hM2 (by omega) ⟨by omega, by omega⟩) (cwV 0 hts gL_law_X11_thrown rfl rfl rfl (by decide +kernel) ⟨Nat.le_of_ble_eq_true rfl, Nat.le_of_ble_eq_true rfl⟩) hN hK hP hD hS hA (List.range 488) [] (pw_all _ _ _) rfl (pw_nd _) rfl (fun _ h9 => nomatch h9) (q0 := 480) (ci := 11) rfl rfl (pw_at (by omega) (hfs2)) rfl hl.1 (Nat.le_of_ble_eq_true rfl) dL_law_346 ⟨by show _ ≤ 601024; omega, by show _ ≤ 7293034; omega⟩ (fun t9 w1 H locs hz346 hp hP hD hS => ?_)
    obtain ⟨G3, rfl, ⟨hth, hM3⟩, ho3⟩ := hp
    have hG30 : G3 0 = aJ cJ 1 o1 := (ho3 0 (by omega)).trans hG20
    have hC3 : pCs cI cJ cE cF cR 488 ad G3 (V1) (n1) (wd1) (el1) := hC2.at0 (fun i _ h9 => ho3 i (Or.inl h9))
    have hP : va_P D vwCl (pw 488 ad G3) H := hP
    have hD : va_D A (pw 488 ad G3) := hD
    refine lv_iload hx hb dL_law_349 (lv_at hl 1 rfl) ?_
    refine zr_icmp_eq hx hb 356 ⟨by omega, by omega⟩ ⟨by omega, by omega⟩ dL_law_351 (by decide) (fun h_351 => ?_) (fun h_351 => ?_)
    · refine lv_iload hx hb dL_law_356 (lv_at hl 1 rfl) ?_
      refine zr_if_ne hx hb 373 ⟨by omega, by omega⟩ dL_law_358 (by decide) (fun h_358 => ?_) (fun h_358 => ?_)
      · refine lv_goto (tgt := 973) hx hb dL_law_373 (by decide) ?_
        refine W.widen (k := cells + 1) (n := slots + 6) (by omega) (by omega) ?_
        exact kk G3 H locs ls ⟨V1, n1, wd1, el1, tc, o1, hC3, hM3, hG30⟩ hP hD hS (lv_sub hl [2, 3, 4, 5, 6] rfl)
      · refine lv_aload_n hx hb dL_law_361 rfl (lv_at hl 3 rfl) ?_
        refine lv_iconst (v := iZ 0) hx hb dL_law_362 rfl ?_
        have hor : o1 0 = r9 := hob (by omega)
        have hr1 := hz340.1
        have hr2 := hz340.2
        refine zr_lald hx hb hK hP (0) 1 (pw_at (by omega) (hG30)) rfl (0) (by omega) (by omega) (by omega) dL_law_363 ?_
        refine lv_iload hx hb dL_law_364 (lv_at hl 0 rfl) ?_
        refine zr_i2l hx hb hz340 dL_law_366 ?_
        refine zr_lcmp_eq hx hb 373 ⟨by omega, by omega⟩ ⟨by omega, by omega⟩ dL_law_367 dL_law_368 (by decide) (fun h_367 => ?_) (fun h_367 => ?_)
        · refine lv_goto (tgt := 973) hx hb dL_law_373 (by decide) ?_
          refine W.widen (k := cells + 1) (n := slots + 6) (by omega) (by omega) ?_
          exact kk G3 H locs ls ⟨V1, n1, wd1, el1, tc, o1, hC3, hM3, hG30⟩ hP hD hS (lv_sub hl [2, 3, 4, 5, 6] rfl)
        · exfalso; omega
    · exfalso; omega

set_option maxHeartbeats 4000000 in
set_option maxRecDepth 100000 in
/-- the law, rank -/
theorem lm_rank {p : Program} {l : Launch} {e : Env} {s : State} {m : MethodId} {below : List Frame} {meth : Method} {c : Code} {H : Heap} {locs : List Loc} {cells slots : Nat} {Q : State → Prop} {ls : Array Slot} {b L : Nat} {xs : Nat → Int32} {D : va_G} {cI cJ cE cF cR : ClassId} {A : Nat → Prop} {ad : Nat → Nat} {G : Nat → va_E} (C : lwC p l s m c b L xs D cI cJ cE cF cR A) (j : Nat) (hj : 5 * j + 5 ≤ L) (hcs : cells + 1 ≤ 601024 ∧ slots + 6 ≤ 7293034) (hW : lwS cI cJ cE cF cR ad G) (hP : va_P D vwCl (pw 488 ad G) H) (hD : va_D A (pw 488 ad G)) (hS : va_S A s.heap H locs) (hl : lv_has ls 7 [(4, .int (iZ (((5 * j : Nat) : Int)))), (3, .ref (ad 0)), (2, .ref (ad 480)), (1, .ref (ad 1)), (0, .ref (b))]) (kk : ∀ (G1 : Nat → va_E) (H1 : Heap) (locs1 : List Loc) (ls1 : Array Slot), lwS cI cJ cE cF cR ad G1 → va_P D vwCl (pw 488 ad G1) H1 → va_D A (pw 488 ad G1) → va_S A s.heap H1 locs1 → lv_has ls1 7 [(4, .int (iZ (((5 * j : Nat) : Int)))), (3, .ref (ad 0)), (2, .ref (ad 480)), (1, .ref (ad 1)), (0, .ref (b))] → W p l e room_1 s m #[Value.ref b] below meth c H1 locs1 (cells + 1) (slots + 6) Q (F0 m 973 ls1 [])) : W p l e room_1 s m #[Value.ref b] below meth c H locs cells slots Q (F0 m 376 ls []) := by
  obtain ⟨hx, hb, hml, hown, hts, hst, hN, hX9, hHC, hK, hA, hXs, hbl, hbA, hL25⟩ := id C
  obtain ⟨V, n, wd, el, th, o, hC9, hM, ho0⟩ := hW
  obtain ⟨hcs1, hcs2⟩ := hcs
  refine lv_aload_n hx hb dL_law_376 rfl (lv_at hl 3 rfl) ?_
  refine zc_Vi (As := []) (rest := []) (wr := []) ⟨hx, hb, hml, hown, hts⟩ (p_rank l D cI cJ cE cF cR 488 ad G V n wd el hC9 (by omega)) (cwV 0 hts gL_law_X10_rank rfl rfl rfl (by decide +kernel) ⟨Nat.le_of_ble_eq_true rfl, Nat.le_of_ble_eq_true rfl⟩) hN hK hP hD hS hA (List.range 488) [] (pw_all _ _ _) rfl (pw_nd _) rfl (fun _ h9 => nomatch h9) (q0 := 1) (ci := 10) rfl rfl (pw_at (by omega) (hC9.1)) rfl hl.1 (Nat.le_of_ble_eq_true rfl) dL_law_377 ⟨by show _ ≤ 601024; omega, by show _ ≤ 7293034; omega⟩ (fun a9 w1 H locs hz377 hp hP hD hS => ?_)
  obtain ⟨G1, rfl, hh, ho1⟩ := hp
  have hC1 : pCs cI cJ cE cF cR 488 ad G1 (V) (n) (wd) (el) := hC9.at0 (fun i _ _ => ho1 i)
  have hM1 : mSt cI cJ ad G1 V n el th := hM.keep (fun i _ => ho1 i)
  have hG10 : G1 0 = aJ cJ 1 o := (ho1 0).trans ho0
  obtain ⟨fs1, hfs1⟩ := hM1.obj
  have hP : va_P D vwCl (pw 488 ad G1) H := hP
  have hD : va_D A (pw 488 ad G1) := hD
  refine lv_aload_n hx hb dL_law_380 rfl (lv_at hl 2 rfl) ?_
  refine zc_Vi (As := []) (rest := [.int (iZ (a9))]) (wr := []) ⟨hx, hb, hml, hown, hts⟩ (m_rank l D cI cJ cE cF cR 488 ad G1 V n el th hM1 (by omega)  ) (cwV 0 hts gL_law_X11_rank rfl rfl rfl (by decide +kernel) ⟨Nat.le_of_ble_eq_true rfl, Nat.le_of_ble_eq_true rfl⟩) hN hK hP hD hS hA (List.range 488) [] (pw_all _ _ _) rfl (pw_nd _) rfl (fun _ h9 => nomatch h9) (q0 := 480) (ci := 11) rfl rfl (pw_at (by omega) (hfs1)) rfl hl.1 (Nat.le_of_ble_eq_true rfl) dL_law_381 ⟨by show _ ≤ 601024; omega, by show _ ≤ 7293034; omega⟩ (fun r9 w1 H locs hz381 hp hP hD hS => ?_)
  obtain ⟨G2, rfl, ⟨hm, hM2⟩, ho2⟩ := hp
  have heq9 : a9 = r9 := by rcases hh with ⟨u1, u2⟩ | ⟨u1, u2⟩ <;> rcases hm with ⟨v1, v2⟩ | ⟨v1, v2⟩ <;> omega
  have hC2 : pCs cI cJ cE cF cR 488 ad G2 (V) (n) (wd) (el) := hC1.at0 (fun i _ h9 => ho2 i (Or.inl h9))
  have hG20 : G2 0 = aJ cJ 1 o := (ho2 0 (by omega)).trans hG10
  have hP : va_P D vwCl (pw 488 ad G2) H := hP
  have hD : va_D A (pw 488 ad G2) := hD
  refine zr_icmp_eq hx hb 973 hz377 hz381 dL_law_384 (by decide) (fun h_384 => ?_) (fun h_384 => ?_)
  · refine W.widen (k := cells + 1) (n := slots + 6) (by omega) (by omega) ?_
    exact kk G2 H locs ls ⟨V, n, wd, el, _, o, hC2, hM2, hG20⟩ hP hD hS (lv_sub hl [0, 1, 2, 3, 4] rfl)
  · exfalso; omega

set_option maxHeartbeats 4000000 in
set_option maxRecDepth 100000 in
/-- the law, isSolvable -/
theorem lm_isSolvable {p : Program} {l : Launch} {e : Env} {s : State} {m : MethodId} {below : List Frame} {meth : Method} {c : Code} {H : Heap} {locs : List Loc} {cells slots : Nat} {Q : State → Prop} {ls : Array Slot} {b L : Nat} {xs : Nat → Int32} {D : va_G} {cI cJ cE cF cR : ClassId} {A : Nat → Prop} {ad : Nat → Nat} {G : Nat → va_E} (C : lwC p l s m c b L xs D cI cJ cE cF cR A) (j : Nat) (hj : 5 * j + 5 ≤ L) (hcs : cells + 1 ≤ 601024 ∧ slots + 6 ≤ 7293034) (hW : lwS cI cJ cE cF cR ad G) (hP : va_P D vwCl (pw 488 ad G) H) (hD : va_D A (pw 488 ad G)) (hS : va_S A s.heap H locs) (hl : lv_has ls 7 [(4, .int (iZ (((5 * j : Nat) : Int)))), (3, .ref (ad 0)), (2, .ref (ad 480)), (1, .ref (ad 1)), (0, .ref (b))]) (kk : ∀ (G1 : Nat → va_E) (H1 : Heap) (locs1 : List Loc) (ls1 : Array Slot), lwS cI cJ cE cF cR ad G1 → va_P D vwCl (pw 488 ad G1) H1 → va_D A (pw 488 ad G1) → va_S A s.heap H1 locs1 → lv_has ls1 7 [(4, .int (iZ (((5 * j : Nat) : Int)))), (3, .ref (ad 0)), (2, .ref (ad 480)), (1, .ref (ad 1)), (0, .ref (b))] → W p l e room_1 s m #[Value.ref b] below meth c H1 locs1 (cells + 1) (slots + 6) Q (F0 m 973 ls1 [])) : W p l e room_1 s m #[Value.ref b] below meth c H locs cells slots Q (F0 m 389 ls []) := by
  obtain ⟨hx, hb, hml, hown, hts, hst, hN, hX9, hHC, hK, hA, hXs, hbl, hbA, hL25⟩ := id C
  obtain ⟨V, n, wd, el, th, o, hC9, hM, ho0⟩ := hW
  obtain ⟨hcs1, hcs2⟩ := hcs
  refine lv_aload_n hx hb dL_law_389 rfl (lv_at hl 3 rfl) ?_
  refine lv_aload_n hx hb dL_law_390 rfl (lv_at hl 1 rfl) ?_
  refine zc_H (As := [.ref (ad 1), .ref (ad 0)]) (rest := []) ⟨hx, hb, hml, hown, hts⟩ (h_isSolvable l D cI cJ cE cF cR hst 488 ad G  V n wd el hC9 (by omega)  o ho0) (vx_cwSW 2 hts gL_law_L_isSolvable rfl rfl rfl (by decide +kernel) ⟨Nat.le_of_ble_eq_true rfl, Nat.le_of_ble_eq_true rfl⟩) hN hX9 hHC hK hP hD hS hA rfl hl.1 (Nat.le_of_ble_eq_true rfl) dL_law_391 ⟨by show _ ≤ 601024; omega, by show _ ≤ 7293034; omega⟩ (fun k9 w1 H locs hk9 hp hP hD hS => ?_)
  obtain ⟨G1, rfl, hh, ho1⟩ := hp
  have hM1 : mSt cI cJ ad G1 V n el th := hM.keep ho1
  obtain ⟨fs1, hfs1⟩ := hM1.obj
  have hP : va_P D vwCl (pw 488 ad G1) H := hP
  have hD : va_D A (pw 488 ad G1) := hD
  refine lv_istore (lv' := [(5, .int (iZ (k9))), (4, .int (iZ (((5 * j : Nat) : Int)))), (3, .ref (ad 0)), (2, .ref (ad 480)), (1, .ref (ad 1)), (0, .ref (b))]) hx hb dL_law_394 hl (by decide) rfl (fun ls hl => ?_)
  refine lv_aload_n hx hb dL_law_396 rfl (lv_at hl 3 rfl) ?_
  refine zc_Vi (As := []) (rest := []) (wr := []) ⟨hx, hb, hml, hown, hts⟩ (m_isSolvable l D cI cJ cE cF cR 488 ad G1 V n el th hM1 (by omega)  ) (cwV 0 hts gL_law_X11_isSolvable rfl rfl rfl (by decide +kernel) ⟨Nat.le_of_ble_eq_true rfl, Nat.le_of_ble_eq_true rfl⟩) hN hK hP hD hS hA (List.range 488) [] (pw_all _ _ _) rfl (pw_nd _) rfl (fun _ h9 => nomatch h9) (q0 := 480) (ci := 11) rfl rfl (pw_at (by omega) (hfs1)) rfl hl.1 (Nat.le_of_ble_eq_true rfl) dL_law_397 ⟨by show _ ≤ 601024; omega, by show _ ≤ 7293034; omega⟩ (fun r9 w1 H locs hz397 hp hP hD hS => ?_)
  obtain ⟨G2, rfl, hm, ho2⟩ := hp
  have hr01 := lb_isSolvable hh hm
  obtain ⟨V1, n1, wd1, el1, tc, o1, hC2, hM2, hG20, htk, hob, hk012⟩ := la_isSolvable hh hm ho2
  obtain ⟨fs2, hfs2⟩ := hM2.obj
  have hP : va_P D vwCl (pw 488 ad G2) H := hP
  have hD : va_D A (pw 488 ad G2) := hD
  refine lv_istore (lv' := [(6, .int (iZ (r9))), (5, .int (iZ (k9))), (4, .int (iZ (((5 * j : Nat) : Int)))), (3, .ref (ad 0)), (2, .ref (ad 480)), (1, .ref (ad 1)), (0, .ref (b))]) hx hb dL_law_400 hl (by decide) rfl (fun ls hl => ?_)
  refine lv_aload_n hx hb dL_law_402 rfl (lv_at hl 4 rfl) ?_
  refine zc_Vi (As := []) (rest := []) (wr := []) ⟨hx, hb, hml, hown, hts⟩ (m_thrown l D cI cJ cE cF cR 488 ad G2 V1 n1 el1 tc hM2 (by omega) ⟨by omega, by omega⟩) (cwV 0 hts gL_law_X11_thrown rfl rfl rfl (by decide +kernel) ⟨Nat.le_of_ble_eq_true rfl, Nat.le_of_ble_eq_true rfl⟩) hN hK hP hD hS hA (List.range 488) [] (pw_all _ _ _) rfl (pw_nd _) rfl (fun _ h9 => nomatch h9) (q0 := 480) (ci := 11) rfl rfl (pw_at (by omega) (hfs2)) rfl hl.1 (Nat.le_of_ble_eq_true rfl) dL_law_403 ⟨by show _ ≤ 601024; omega, by show _ ≤ 7293034; omega⟩ (fun t9 w1 H locs hz403 hp hP hD hS => ?_)
  obtain ⟨G3, rfl, ⟨hth, hM3⟩, ho3⟩ := hp
  have hG30 : G3 0 = aJ cJ 1 o1 := (ho3 0 (by omega)).trans hG20
  have hC3 : pCs cI cJ cE cF cR 488 ad G3 (V1) (n1) (wd1) (el1) := hC2.at0 (fun i _ h9 => ho3 i (Or.inl h9))
  have hP : va_P D vwCl (pw 488 ad G3) H := hP
  have hD : va_D A (pw 488 ad G3) := hD
  refine lv_iload hx hb dL_law_406 (lv_at hl 1 rfl) ?_
  refine zr_icmp_eq hx hb 413 ⟨by omega, by omega⟩ ⟨by omega, by omega⟩ dL_law_408 (by decide) (fun h_408 => ?_) (fun h_408 => ?_)
  · refine lv_iload hx hb dL_law_413 (lv_at hl 1 rfl) ?_
    refine zr_if_ne hx hb 437 ⟨by omega, by omega⟩ dL_law_415 (by decide) (fun h_415 => ?_) (fun h_415 => ?_)
    · refine lv_goto (tgt := 973) hx hb dL_law_437 (by decide) ?_
      refine W.widen (k := cells + 1) (n := slots + 6) (by omega) (by omega) ?_
      exact kk G3 H locs ls ⟨V1, n1, wd1, el1, tc, o1, hC3, hM3, hG30⟩ hP hD hS (lv_sub hl [2, 3, 4, 5, 6] rfl)
    · refine lv_aload_n hx hb dL_law_418 rfl (lv_at hl 3 rfl) ?_
      refine lv_iconst (v := iZ 0) hx hb dL_law_419 rfl ?_
      have hor : o1 0 = r9 := hob (by omega)
      have hr1 := hz397.1
      have hr2 := hz397.2
      have hr3 := hr01 (by omega)
      refine zr_lald hx hb hK hP (0) 1 (pw_at (by omega) (hG30)) rfl (0) (by omega) (by omega) (by omega) dL_law_420 ?_
      refine lv_iload hx hb dL_law_421 (lv_at hl 0 rfl) ?_
      refine zr_if_eq hx hb 430 hz397 dL_law_423 (by decide) (fun h_423 => ?_) (fun h_423 => ?_)
      · refine lv_lconst (v := lZ 0) hx hb dL_law_430 rfl ?_
        refine zr_lcmp_eq hx hb 437 ⟨by omega, by omega⟩ ⟨by omega, by omega⟩ dL_law_431 dL_law_432 (by decide) (fun h_431 => ?_) (fun h_431 => ?_)
        · refine lv_goto (tgt := 973) hx hb dL_law_437 (by decide) ?_
          refine W.widen (k := cells + 1) (n := slots + 6) (by omega) (by omega) ?_
          exact kk G3 H locs ls ⟨V1, n1, wd1, el1, tc, o1, hC3, hM3, hG30⟩ hP hD hS (lv_sub hl [2, 3, 4, 5, 6] rfl)
        · exfalso; omega
      · refine lv_lconst (v := lZ 1) hx hb dL_law_426 rfl ?_
        refine lv_goto (tgt := 431) hx hb dL_law_427 (by decide) ?_
        refine zr_lcmp_eq hx hb 437 ⟨by omega, by omega⟩ ⟨by omega, by omega⟩ dL_law_431 dL_law_432 (by decide) (fun h_431 => ?_) (fun h_431 => ?_)
        · refine lv_goto (tgt := 973) hx hb dL_law_437 (by decide) ?_
          refine W.widen (k := cells + 1) (n := slots + 6) (by omega) (by omega) ?_
          exact kk G3 H locs ls ⟨V1, n1, wd1, el1, tc, o1, hC3, hM3, hG30⟩ hP hD hS (lv_sub hl [2, 3, 4, 5, 6] rfl)
        · exfalso; omega
  · exfalso; omega

set_option maxHeartbeats 4000000 in
set_option maxRecDepth 100000 in
/-- the law, most -/
theorem lm_most {p : Program} {l : Launch} {e : Env} {s : State} {m : MethodId} {below : List Frame} {meth : Method} {c : Code} {H : Heap} {locs : List Loc} {cells slots : Nat} {Q : State → Prop} {ls : Array Slot} {b L : Nat} {xs : Nat → Int32} {D : va_G} {cI cJ cE cF cR : ClassId} {A : Nat → Prop} {ad : Nat → Nat} {G : Nat → va_E} (C : lwC p l s m c b L xs D cI cJ cE cF cR A) (j : Nat) (hj : 5 * j + 5 ≤ L) (hcs : cells + 1 ≤ 601024 ∧ slots + 6 ≤ 7293034) (hW : lwS cI cJ cE cF cR ad G) (hP : va_P D vwCl (pw 488 ad G) H) (hD : va_D A (pw 488 ad G)) (hS : va_S A s.heap H locs) (hl : lv_has ls 7 [(4, .int (iZ (((5 * j : Nat) : Int)))), (3, .ref (ad 0)), (2, .ref (ad 480)), (1, .ref (ad 1)), (0, .ref (b))]) (kk : ∀ (G1 : Nat → va_E) (H1 : Heap) (locs1 : List Loc) (ls1 : Array Slot), lwS cI cJ cE cF cR ad G1 → va_P D vwCl (pw 488 ad G1) H1 → va_D A (pw 488 ad G1) → va_S A s.heap H1 locs1 → lv_has ls1 7 [(4, .int (iZ (((5 * j : Nat) : Int)))), (3, .ref (ad 0)), (2, .ref (ad 480)), (1, .ref (ad 1)), (0, .ref (b))] → W p l e room_1 s m #[Value.ref b] below meth c H1 locs1 (cells + 1) (slots + 6) Q (F0 m 973 ls1 [])) : W p l e room_1 s m #[Value.ref b] below meth c H locs cells slots Q (F0 m 440 ls []) := by
  obtain ⟨hx, hb, hml, hown, hts, hst, hN, hX9, hHC, hK, hA, hXs, hbl, hbA, hL25⟩ := id C
  obtain ⟨V, n, wd, el, th, o, hC9, hM, ho0⟩ := hW
  obtain ⟨hcs1, hcs2⟩ := hcs
  have hpH : peH (pe V n n) ≤ 2147483647 := by
    obtain ⟨_, ⟨h1n, hn, hT⟩, _⟩ := id hC9
    have := pe_Hle hT h1n hn n (Nat.le_refl n)
    omega
  refine lv_aload_n hx hb dL_law_440 rfl (lv_at hl 3 rfl) ?_
  refine lv_aload_n hx hb dL_law_441 rfl (lv_at hl 1 rfl) ?_
  refine zc_H (As := [.ref (ad 1), .ref (ad 0)]) (rest := []) ⟨hx, hb, hml, hown, hts⟩ (h_most l D cI cJ cE cF cR hst 488 ad G  V n wd el hC9 (by omega)  o ho0 hpH) (vx_cwSW 2 hts gL_law_L_most rfl rfl rfl (by decide +kernel) ⟨Nat.le_of_ble_eq_true rfl, Nat.le_of_ble_eq_true rfl⟩) hN hX9 hHC hK hP hD hS hA rfl hl.1 (Nat.le_of_ble_eq_true rfl) dL_law_442 ⟨by show _ ≤ 601024; omega, by show _ ≤ 7293034; omega⟩ (fun k9 w1 H locs hk9 hp hP hD hS => ?_)
  obtain ⟨G1, rfl, hh, ho1⟩ := hp
  have hM1 : mSt cI cJ ad G1 V n el th := hM.keep ho1
  obtain ⟨fs1, hfs1⟩ := hM1.obj
  have hP : va_P D vwCl (pw 488 ad G1) H := hP
  have hD : va_D A (pw 488 ad G1) := hD
  refine lv_istore (lv' := [(5, .int (iZ (k9))), (4, .int (iZ (((5 * j : Nat) : Int)))), (3, .ref (ad 0)), (2, .ref (ad 480)), (1, .ref (ad 1)), (0, .ref (b))]) hx hb dL_law_445 hl (by decide) rfl (fun ls hl => ?_)
  refine lv_aload_n hx hb dL_law_447 rfl (lv_at hl 3 rfl) ?_
  refine zc_Vi (As := []) (rest := []) (wr := []) ⟨hx, hb, hml, hown, hts⟩ (m_most l D cI cJ cE cF cR 488 ad G1 V n el th hM1 (by omega)   hpH) (cwV 0 hts gL_law_X11_most rfl rfl rfl (by decide +kernel) ⟨Nat.le_of_ble_eq_true rfl, Nat.le_of_ble_eq_true rfl⟩) hN hK hP hD hS hA (List.range 488) [] (pw_all _ _ _) rfl (pw_nd _) rfl (fun _ h9 => nomatch h9) (q0 := 480) (ci := 11) rfl rfl (pw_at (by omega) (hfs1)) rfl hl.1 (Nat.le_of_ble_eq_true rfl) dL_law_448 ⟨by show _ ≤ 601024; omega, by show _ ≤ 7293034; omega⟩ (fun r9 w1 H locs hz448 hp hP hD hS => ?_)
  obtain ⟨G2, rfl, hm, ho2⟩ := hp
  obtain ⟨V1, n1, wd1, el1, tc, o1, hC2, hM2, hG20, htk, hob, hk012⟩ := la_most hh hm ho2
  obtain ⟨fs2, hfs2⟩ := hM2.obj
  have hP : va_P D vwCl (pw 488 ad G2) H := hP
  have hD : va_D A (pw 488 ad G2) := hD
  refine lv_istore (lv' := [(6, .int (iZ (r9))), (5, .int (iZ (k9))), (4, .int (iZ (((5 * j : Nat) : Int)))), (3, .ref (ad 0)), (2, .ref (ad 480)), (1, .ref (ad 1)), (0, .ref (b))]) hx hb dL_law_451 hl (by decide) rfl (fun ls hl => ?_)
  refine lv_aload_n hx hb dL_law_453 rfl (lv_at hl 4 rfl) ?_
  refine zc_Vi (As := []) (rest := []) (wr := []) ⟨hx, hb, hml, hown, hts⟩ (m_thrown l D cI cJ cE cF cR 488 ad G2 V1 n1 el1 tc hM2 (by omega) ⟨by omega, by omega⟩) (cwV 0 hts gL_law_X11_thrown rfl rfl rfl (by decide +kernel) ⟨Nat.le_of_ble_eq_true rfl, Nat.le_of_ble_eq_true rfl⟩) hN hK hP hD hS hA (List.range 488) [] (pw_all _ _ _) rfl (pw_nd _) rfl (fun _ h9 => nomatch h9) (q0 := 480) (ci := 11) rfl rfl (pw_at (by omega) (hfs2)) rfl hl.1 (Nat.le_of_ble_eq_true rfl) dL_law_454 ⟨by show _ ≤ 601024; omega, by show _ ≤ 7293034; omega⟩ (fun t9 w1 H locs hz454 hp hP hD hS => ?_)
  obtain ⟨G3, rfl, ⟨hth, hM3⟩, ho3⟩ := hp
  have hG30 : G3 0 = aJ cJ 1 o1 := (ho3 0 (by omega)).trans hG20
  have hC3 : pCs cI cJ cE cF cR 488 ad G3 (V1) (n1) (wd1) (el1) := hC2.at0 (fun i _ h9 => ho3 i (Or.inl h9))
  have hP : va_P D vwCl (pw 488 ad G3) H := hP
  have hD : va_D A (pw 488 ad G3) := hD
  refine lv_iload hx hb dL_law_457 (lv_at hl 1 rfl) ?_
  refine zr_icmp_eq hx hb 464 ⟨by omega, by omega⟩ ⟨by omega, by omega⟩ dL_law_459 (by decide) (fun h_459 => ?_) (fun h_459 => ?_)
  · refine lv_iload hx hb dL_law_464 (lv_at hl 1 rfl) ?_
    refine zr_if_ne hx hb 481 ⟨by omega, by omega⟩ dL_law_466 (by decide) (fun h_466 => ?_) (fun h_466 => ?_)
    · refine lv_goto (tgt := 973) hx hb dL_law_481 (by decide) ?_
      refine W.widen (k := cells + 1) (n := slots + 6) (by omega) (by omega) ?_
      exact kk G3 H locs ls ⟨V1, n1, wd1, el1, tc, o1, hC3, hM3, hG30⟩ hP hD hS (lv_sub hl [2, 3, 4, 5, 6] rfl)
    · refine lv_aload_n hx hb dL_law_469 rfl (lv_at hl 3 rfl) ?_
      refine lv_iconst (v := iZ 0) hx hb dL_law_470 rfl ?_
      have hor : o1 0 = r9 := hob (by omega)
      have hr1 := hz448.1
      have hr2 := hz448.2
      refine zr_lald hx hb hK hP (0) 1 (pw_at (by omega) (hG30)) rfl (0) (by omega) (by omega) (by omega) dL_law_471 ?_
      refine lv_iload hx hb dL_law_472 (lv_at hl 0 rfl) ?_
      refine zr_i2l hx hb hz448 dL_law_474 ?_
      refine zr_lcmp_eq hx hb 481 ⟨by omega, by omega⟩ ⟨by omega, by omega⟩ dL_law_475 dL_law_476 (by decide) (fun h_475 => ?_) (fun h_475 => ?_)
      · refine lv_goto (tgt := 973) hx hb dL_law_481 (by decide) ?_
        refine W.widen (k := cells + 1) (n := slots + 6) (by omega) (by omega) ?_
        exact kk G3 H locs ls ⟨V1, n1, wd1, el1, tc, o1, hC3, hM3, hG30⟩ hP hD hS (lv_sub hl [2, 3, 4, 5, 6] rfl)
      · exfalso; omega
  · exfalso; omega

set_option maxHeartbeats 4000000 in
set_option maxRecDepth 100000 in
/-- the law, pivot -/
theorem lm_pivot {p : Program} {l : Launch} {e : Env} {s : State} {m : MethodId} {below : List Frame} {meth : Method} {c : Code} {H : Heap} {locs : List Loc} {cells slots : Nat} {Q : State → Prop} {ls : Array Slot} {b L : Nat} {xs : Nat → Int32} {D : va_G} {cI cJ cE cF cR : ClassId} {A : Nat → Prop} {ad : Nat → Nat} {G : Nat → va_E} (C : lwC p l s m c b L xs D cI cJ cE cF cR A) (j : Nat) (hj : 5 * j + 5 ≤ L) (hcs : cells + 1 ≤ 601024 ∧ slots + 6 ≤ 7293034) (hW : lwS cI cJ cE cF cR ad G) (hP : va_P D vwCl (pw 488 ad G) H) (hD : va_D A (pw 488 ad G)) (hS : va_S A s.heap H locs) (hl : lv_has ls 7 [(4, .int (iZ (((5 * j : Nat) : Int)))), (3, .ref (ad 0)), (2, .ref (ad 480)), (1, .ref (ad 1)), (0, .ref (b))]) (kk : ∀ (G1 : Nat → va_E) (H1 : Heap) (locs1 : List Loc) (ls1 : Array Slot), lwS cI cJ cE cF cR ad G1 → va_P D vwCl (pw 488 ad G1) H1 → va_D A (pw 488 ad G1) → va_S A s.heap H1 locs1 → lv_has ls1 7 [(4, .int (iZ (((5 * j : Nat) : Int)))), (3, .ref (ad 0)), (2, .ref (ad 480)), (1, .ref (ad 1)), (0, .ref (b))] → W p l e room_1 s m #[Value.ref b] below meth c H1 locs1 (cells + 1) (slots + 6) Q (F0 m 973 ls1 [])) : W p l e room_1 s m #[Value.ref b] below meth c H locs cells slots Q (F0 m 484 ls []) := by
  obtain ⟨hx, hb, hml, hown, hts, hst, hN, hX9, hHC, hK, hA, hXs, hbl, hbA, hL25⟩ := id C
  obtain ⟨V, n, wd, el, th, o, hC9, hM, ho0⟩ := hW
  obtain ⟨hcs1, hcs2⟩ := hcs
  refine lv_aload_n hx hb dL_law_484 rfl (lv_at hl 3 rfl) ?_
  refine lv_aload_n hx hb dL_law_485 rfl (lv_at hl 4 rfl) ?_
  refine lv_iload hx hb dL_law_486 (lv_at hl 0 rfl) ?_
  refine lv_iconst (v := iZ 1) hx hb dL_law_488 rfl ?_
  refine zr_iadd hx hb dL_law_489 ?_
  refine zl_sld hx hb hXs hbl hbA hS (5 * j + 1) (by omega) (by omega) hL25 dL_law_490 ?_
  refine lv_aload_n hx hb dL_law_491 rfl (lv_at hl 1 rfl) ?_
  refine zc_H (As := [.ref (ad 1), .int (iZ ((xs (5 * j + 1)).toInt)), .ref (ad 0)]) (rest := []) ⟨hx, hb, hml, hown, hts⟩ (h_pivot l D cI cJ cE cF cR hst 488 ad G ((xs (5 * j + 1)).toInt) V n wd el hC9 (by omega) (iZ_val (xs (5 * j + 1))).2 o ho0) (vx_cwSW 3 hts gL_law_L_pivot rfl rfl rfl (by decide +kernel) ⟨Nat.le_of_ble_eq_true rfl, Nat.le_of_ble_eq_true rfl⟩) hN hX9 hHC hK hP hD hS hA rfl hl.1 (Nat.le_of_ble_eq_true rfl) dL_law_492 ⟨by show _ ≤ 601024; omega, by show _ ≤ 7293034; omega⟩ (fun k9 w1 H locs hk9 hp hP hD hS => ?_)
  obtain ⟨G1, rfl, hh, ho1⟩ := hp
  have hM1 : mSt cI cJ ad G1 V n el th := hM.keep ho1
  obtain ⟨fs1, hfs1⟩ := hM1.obj
  have hP : va_P D vwCl (pw 488 ad G1) H := hP
  have hD : va_D A (pw 488 ad G1) := hD
  refine lv_istore (lv' := [(5, .int (iZ (k9))), (4, .int (iZ (((5 * j : Nat) : Int)))), (3, .ref (ad 0)), (2, .ref (ad 480)), (1, .ref (ad 1)), (0, .ref (b))]) hx hb dL_law_495 hl (by decide) rfl (fun ls hl => ?_)
  refine lv_aload_n hx hb dL_law_497 rfl (lv_at hl 3 rfl) ?_
  refine lv_aload_n hx hb dL_law_498 rfl (lv_at hl 5 rfl) ?_
  refine lv_iload hx hb dL_law_499 (lv_at hl 1 rfl) ?_
  refine lv_iconst (v := iZ 1) hx hb dL_law_501 rfl ?_
  refine zr_iadd hx hb dL_law_502 ?_
  refine zl_sld hx hb hXs hbl hbA hS (5 * j + 1) (by omega) (by omega) hL25 dL_law_503 ?_
  refine zc_Vi (As := [.int (iZ ((xs (5 * j + 1)).toInt))]) (rest := []) (wr := []) ⟨hx, hb, hml, hown, hts⟩ (m_pivot l D cI cJ cE cF cR 488 ad G1 V n el th hM1 (by omega) ((xs (5 * j + 1)).toInt) (iZ_val (xs (5 * j + 1))).2) (cwV 1 hts gL_law_X11_pivot rfl rfl rfl (by decide +kernel) ⟨Nat.le_of_ble_eq_true rfl, Nat.le_of_ble_eq_true rfl⟩) hN hK hP hD hS hA (List.range 488) [] (pw_all _ _ _) rfl (pw_nd _) rfl (fun _ h9 => nomatch h9) (q0 := 480) (ci := 11) rfl rfl (pw_at (by omega) (hfs1)) rfl hl.1 (Nat.le_of_ble_eq_true rfl) dL_law_504 ⟨by show _ ≤ 601024; omega, by show _ ≤ 7293034; omega⟩ (fun r9 w1 H locs hz504 hp hP hD hS => ?_)
  obtain ⟨G2, rfl, hm, ho2⟩ := hp
  obtain ⟨V1, n1, wd1, el1, tc, o1, hC2, hM2, hG20, htk, hob, hk012⟩ := la_pivot hh hm ho2
  obtain ⟨fs2, hfs2⟩ := hM2.obj
  have hP : va_P D vwCl (pw 488 ad G2) H := hP
  have hD : va_D A (pw 488 ad G2) := hD
  refine lv_istore (lv' := [(6, .int (iZ (r9))), (5, .int (iZ (k9))), (4, .int (iZ (((5 * j : Nat) : Int)))), (3, .ref (ad 0)), (2, .ref (ad 480)), (1, .ref (ad 1)), (0, .ref (b))]) hx hb dL_law_507 hl (by decide) rfl (fun ls hl => ?_)
  refine lv_aload_n hx hb dL_law_509 rfl (lv_at hl 4 rfl) ?_
  refine zc_Vi (As := []) (rest := []) (wr := []) ⟨hx, hb, hml, hown, hts⟩ (m_thrown l D cI cJ cE cF cR 488 ad G2 V1 n1 el1 tc hM2 (by omega) ⟨by omega, by omega⟩) (cwV 0 hts gL_law_X11_thrown rfl rfl rfl (by decide +kernel) ⟨Nat.le_of_ble_eq_true rfl, Nat.le_of_ble_eq_true rfl⟩) hN hK hP hD hS hA (List.range 488) [] (pw_all _ _ _) rfl (pw_nd _) rfl (fun _ h9 => nomatch h9) (q0 := 480) (ci := 11) rfl rfl (pw_at (by omega) (hfs2)) rfl hl.1 (Nat.le_of_ble_eq_true rfl) dL_law_510 ⟨by show _ ≤ 601024; omega, by show _ ≤ 7293034; omega⟩ (fun t9 w1 H locs hz510 hp hP hD hS => ?_)
  obtain ⟨G3, rfl, ⟨hth, hM3⟩, ho3⟩ := hp
  have hG30 : G3 0 = aJ cJ 1 o1 := (ho3 0 (by omega)).trans hG20
  have hC3 : pCs cI cJ cE cF cR 488 ad G3 (V1) (n1) (wd1) (el1) := hC2.at0 (fun i _ h9 => ho3 i (Or.inl h9))
  have hP : va_P D vwCl (pw 488 ad G3) H := hP
  have hD : va_D A (pw 488 ad G3) := hD
  refine lv_iload hx hb dL_law_513 (lv_at hl 1 rfl) ?_
  refine zr_icmp_eq hx hb 520 ⟨by omega, by omega⟩ ⟨by omega, by omega⟩ dL_law_515 (by decide) (fun h_515 => ?_) (fun h_515 => ?_)
  · refine lv_iload hx hb dL_law_520 (lv_at hl 1 rfl) ?_
    refine zr_if_ne hx hb 537 ⟨by omega, by omega⟩ dL_law_522 (by decide) (fun h_522 => ?_) (fun h_522 => ?_)
    · refine lv_goto (tgt := 973) hx hb dL_law_537 (by decide) ?_
      refine W.widen (k := cells + 1) (n := slots + 6) (by omega) (by omega) ?_
      exact kk G3 H locs ls ⟨V1, n1, wd1, el1, tc, o1, hC3, hM3, hG30⟩ hP hD hS (lv_sub hl [2, 3, 4, 5, 6] rfl)
    · refine lv_aload_n hx hb dL_law_525 rfl (lv_at hl 3 rfl) ?_
      refine lv_iconst (v := iZ 0) hx hb dL_law_526 rfl ?_
      have hor : o1 0 = r9 := hob (by omega)
      have hr1 := hz504.1
      have hr2 := hz504.2
      refine zr_lald hx hb hK hP (0) 1 (pw_at (by omega) (hG30)) rfl (0) (by omega) (by omega) (by omega) dL_law_527 ?_
      refine lv_iload hx hb dL_law_528 (lv_at hl 0 rfl) ?_
      refine zr_i2l hx hb hz504 dL_law_530 ?_
      refine zr_lcmp_eq hx hb 537 ⟨by omega, by omega⟩ ⟨by omega, by omega⟩ dL_law_531 dL_law_532 (by decide) (fun h_531 => ?_) (fun h_531 => ?_)
      · refine lv_goto (tgt := 973) hx hb dL_law_537 (by decide) ?_
        refine W.widen (k := cells + 1) (n := slots + 6) (by omega) (by omega) ?_
        exact kk G3 H locs ls ⟨V1, n1, wd1, el1, tc, o1, hC3, hM3, hG30⟩ hP hD hS (lv_sub hl [2, 3, 4, 5, 6] rfl)
      · exfalso; omega
  · exfalso; omega

set_option maxHeartbeats 4000000 in
set_option maxRecDepth 100000 in
/-- the law, solution -/
theorem lm_solution {p : Program} {l : Launch} {e : Env} {s : State} {m : MethodId} {below : List Frame} {meth : Method} {c : Code} {H : Heap} {locs : List Loc} {cells slots : Nat} {Q : State → Prop} {ls : Array Slot} {b L : Nat} {xs : Nat → Int32} {D : va_G} {cI cJ cE cF cR : ClassId} {A : Nat → Prop} {ad : Nat → Nat} {G : Nat → va_E} (C : lwC p l s m c b L xs D cI cJ cE cF cR A) (j : Nat) (hj : 5 * j + 5 ≤ L) (hcs : cells + 1 ≤ 601024 ∧ slots + 6 ≤ 7293034) (hW : lwS cI cJ cE cF cR ad G) (hP : va_P D vwCl (pw 488 ad G) H) (hD : va_D A (pw 488 ad G)) (hS : va_S A s.heap H locs) (hl : lv_has ls 7 [(4, .int (iZ (((5 * j : Nat) : Int)))), (3, .ref (ad 0)), (2, .ref (ad 480)), (1, .ref (ad 1)), (0, .ref (b))]) (kk : ∀ (G1 : Nat → va_E) (H1 : Heap) (locs1 : List Loc) (ls1 : Array Slot), lwS cI cJ cE cF cR ad G1 → va_P D vwCl (pw 488 ad G1) H1 → va_D A (pw 488 ad G1) → va_S A s.heap H1 locs1 → lv_has ls1 7 [(4, .int (iZ (((5 * j : Nat) : Int)))), (3, .ref (ad 0)), (2, .ref (ad 480)), (1, .ref (ad 1)), (0, .ref (b))] → W p l e room_1 s m #[Value.ref b] below meth c H1 locs1 (cells + 1) (slots + 6) Q (F0 m 973 ls1 [])) : W p l e room_1 s m #[Value.ref b] below meth c H locs cells slots Q (F0 m 540 ls []) := by
  obtain ⟨hx, hb, hml, hown, hts, hst, hN, hX9, hHC, hK, hA, hXs, hbl, hbA, hL25⟩ := id C
  obtain ⟨V, n, wd, el, th, o, hC9, hM, ho0⟩ := hW
  obtain ⟨hcs1, hcs2⟩ := hcs
  refine lv_aload_n hx hb dL_law_540 rfl (lv_at hl 3 rfl) ?_
  refine lv_aload_n hx hb dL_law_541 rfl (lv_at hl 4 rfl) ?_
  refine lv_iload hx hb dL_law_542 (lv_at hl 0 rfl) ?_
  refine lv_iconst (v := iZ 1) hx hb dL_law_544 rfl ?_
  refine zr_iadd hx hb dL_law_545 ?_
  refine zl_sld hx hb hXs hbl hbA hS (5 * j + 1) (by omega) (by omega) hL25 dL_law_546 ?_
  refine lv_aload_n hx hb dL_law_547 rfl (lv_at hl 4 rfl) ?_
  refine lv_iload hx hb dL_law_548 (lv_at hl 0 rfl) ?_
  refine lv_iconst (v := iZ 2) hx hb dL_law_550 rfl ?_
  refine zr_iadd hx hb dL_law_551 ?_
  refine zl_sld hx hb hXs hbl hbA hS (5 * j + 2) (by omega) (by omega) hL25 dL_law_552 ?_
  refine lv_aload_n hx hb dL_law_553 rfl (lv_at hl 4 rfl) ?_
  refine lv_iload hx hb dL_law_554 (lv_at hl 0 rfl) ?_
  refine lv_iconst (v := iZ 3) hx hb dL_law_556 rfl ?_
  refine zr_iadd hx hb dL_law_557 ?_
  refine zl_sld hx hb hXs hbl hbA hS (5 * j + 3) (by omega) (by omega) hL25 dL_law_558 ?_
  refine lv_aload_n hx hb dL_law_559 rfl (lv_at hl 1 rfl) ?_
  refine zc_H (As := [.ref (ad 1), .int (iZ ((xs (5 * j + 1)).toInt)), .int (iZ ((xs (5 * j + 2)).toInt)), .int (iZ ((xs (5 * j + 3)).toInt)), .ref (ad 0)]) (rest := []) ⟨hx, hb, hml, hown, hts⟩ (h_solution l D cI cJ cE cF cR hst 488 ad G ((xs (5 * j + 1)).toInt) ((xs (5 * j + 2)).toInt) ((xs (5 * j + 3)).toInt) V n wd el hC9 (by omega) (iZ_val (xs (5 * j + 1))).2 (iZ_val (xs (5 * j + 2))).2 (iZ_val (xs (5 * j + 3))).2 o ho0) (vx_cwSW 5 hts gL_law_L_solution rfl rfl rfl (by decide +kernel) ⟨Nat.le_of_ble_eq_true rfl, Nat.le_of_ble_eq_true rfl⟩) hN hX9 hHC hK hP hD hS hA rfl hl.1 (Nat.le_of_ble_eq_true rfl) dL_law_560 ⟨by show _ ≤ 601024; omega, by show _ ≤ 7293034; omega⟩ (fun k9 w1 H locs hk9 hp hP hD hS => ?_)
  obtain ⟨G1, rfl, hh, ho1⟩ := hp
  have hM1 : mSt cI cJ ad G1 V n el th := hM.keep ho1
  obtain ⟨fs1, hfs1⟩ := hM1.obj
  have hP : va_P D vwCl (pw 488 ad G1) H := hP
  have hD : va_D A (pw 488 ad G1) := hD
  refine lv_istore (lv' := [(5, .int (iZ (k9))), (4, .int (iZ (((5 * j : Nat) : Int)))), (3, .ref (ad 0)), (2, .ref (ad 480)), (1, .ref (ad 1)), (0, .ref (b))]) hx hb dL_law_563 hl (by decide) rfl (fun ls hl => ?_)
  refine lv_aload_n hx hb dL_law_565 rfl (lv_at hl 3 rfl) ?_
  refine lv_aload_n hx hb dL_law_566 rfl (lv_at hl 5 rfl) ?_
  refine lv_iload hx hb dL_law_567 (lv_at hl 1 rfl) ?_
  refine lv_iconst (v := iZ 1) hx hb dL_law_569 rfl ?_
  refine zr_iadd hx hb dL_law_570 ?_
  refine zl_sld hx hb hXs hbl hbA hS (5 * j + 1) (by omega) (by omega) hL25 dL_law_571 ?_
  refine lv_aload_n hx hb dL_law_572 rfl (lv_at hl 5 rfl) ?_
  refine lv_iload hx hb dL_law_573 (lv_at hl 1 rfl) ?_
  refine lv_iconst (v := iZ 2) hx hb dL_law_575 rfl ?_
  refine zr_iadd hx hb dL_law_576 ?_
  refine zl_sld hx hb hXs hbl hbA hS (5 * j + 2) (by omega) (by omega) hL25 dL_law_577 ?_
  refine lv_aload_n hx hb dL_law_578 rfl (lv_at hl 5 rfl) ?_
  refine lv_iload hx hb dL_law_579 (lv_at hl 1 rfl) ?_
  refine lv_iconst (v := iZ 3) hx hb dL_law_581 rfl ?_
  refine zr_iadd hx hb dL_law_582 ?_
  refine zl_sld hx hb hXs hbl hbA hS (5 * j + 3) (by omega) (by omega) hL25 dL_law_583 ?_
  refine zc_Vi (As := [.int (iZ ((xs (5 * j + 1)).toInt)), .int (iZ ((xs (5 * j + 2)).toInt)), .int (iZ ((xs (5 * j + 3)).toInt))]) (rest := []) (wr := []) ⟨hx, hb, hml, hown, hts⟩ (m_solution l D cI cJ cE cF cR 488 ad G1 V n el th hM1 (by omega) ((xs (5 * j + 1)).toInt) ((xs (5 * j + 2)).toInt) ((xs (5 * j + 3)).toInt) (iZ_val (xs (5 * j + 1))).2 (iZ_val (xs (5 * j + 2))).2 (iZ_val (xs (5 * j + 3))).2) (cwV 3 hts gL_law_X11_solution rfl rfl rfl (by decide +kernel) ⟨Nat.le_of_ble_eq_true rfl, Nat.le_of_ble_eq_true rfl⟩) hN hK hP hD hS hA (List.range 488) [] (pw_all _ _ _) rfl (pw_nd _) rfl (fun _ h9 => nomatch h9) (q0 := 480) (ci := 11) rfl rfl (pw_at (by omega) (hfs1)) rfl hl.1 (Nat.le_of_ble_eq_true rfl) dL_law_584 ⟨by show _ ≤ 601024; omega, by show _ ≤ 7293034; omega⟩ (fun r9 w1 H locs hz584 hp hP hD hS => ?_)
  obtain ⟨G2, rfl, hm, ho2⟩ := hp
  obtain ⟨V1, n1, wd1, el1, tc, o1, hC2, hM2, hG20, htk, hob, hk012⟩ := la_solution hh hm ho2
  obtain ⟨fs2, hfs2⟩ := hM2.obj
  have hP : va_P D vwCl (pw 488 ad G2) H := hP
  have hD : va_D A (pw 488 ad G2) := hD
  refine lv_istore (lv' := [(6, .int (iZ (r9))), (5, .int (iZ (k9))), (4, .int (iZ (((5 * j : Nat) : Int)))), (3, .ref (ad 0)), (2, .ref (ad 480)), (1, .ref (ad 1)), (0, .ref (b))]) hx hb dL_law_587 hl (by decide) rfl (fun ls hl => ?_)
  refine lv_aload_n hx hb dL_law_589 rfl (lv_at hl 4 rfl) ?_
  refine zc_Vi (As := []) (rest := []) (wr := []) ⟨hx, hb, hml, hown, hts⟩ (m_thrown l D cI cJ cE cF cR 488 ad G2 V1 n1 el1 tc hM2 (by omega) ⟨by omega, by omega⟩) (cwV 0 hts gL_law_X11_thrown rfl rfl rfl (by decide +kernel) ⟨Nat.le_of_ble_eq_true rfl, Nat.le_of_ble_eq_true rfl⟩) hN hK hP hD hS hA (List.range 488) [] (pw_all _ _ _) rfl (pw_nd _) rfl (fun _ h9 => nomatch h9) (q0 := 480) (ci := 11) rfl rfl (pw_at (by omega) (hfs2)) rfl hl.1 (Nat.le_of_ble_eq_true rfl) dL_law_590 ⟨by show _ ≤ 601024; omega, by show _ ≤ 7293034; omega⟩ (fun t9 w1 H locs hz590 hp hP hD hS => ?_)
  obtain ⟨G3, rfl, ⟨hth, hM3⟩, ho3⟩ := hp
  have hG30 : G3 0 = aJ cJ 1 o1 := (ho3 0 (by omega)).trans hG20
  have hC3 : pCs cI cJ cE cF cR 488 ad G3 (V1) (n1) (wd1) (el1) := hC2.at0 (fun i _ h9 => ho3 i (Or.inl h9))
  have hP : va_P D vwCl (pw 488 ad G3) H := hP
  have hD : va_D A (pw 488 ad G3) := hD
  refine lv_iload hx hb dL_law_593 (lv_at hl 1 rfl) ?_
  refine zr_icmp_eq hx hb 600 ⟨by omega, by omega⟩ ⟨by omega, by omega⟩ dL_law_595 (by decide) (fun h_595 => ?_) (fun h_595 => ?_)
  · refine lv_iload hx hb dL_law_600 (lv_at hl 1 rfl) ?_
    refine zr_if_ne hx hb 617 ⟨by omega, by omega⟩ dL_law_602 (by decide) (fun h_602 => ?_) (fun h_602 => ?_)
    · refine lv_goto (tgt := 973) hx hb dL_law_617 (by decide) ?_
      refine W.widen (k := cells + 1) (n := slots + 6) (by omega) (by omega) ?_
      exact kk G3 H locs ls ⟨V1, n1, wd1, el1, tc, o1, hC3, hM3, hG30⟩ hP hD hS (lv_sub hl [2, 3, 4, 5, 6] rfl)
    · refine lv_aload_n hx hb dL_law_605 rfl (lv_at hl 3 rfl) ?_
      refine lv_iconst (v := iZ 0) hx hb dL_law_606 rfl ?_
      have hor : o1 0 = r9 := hob (by omega)
      have hr1 := hz584.1
      have hr2 := hz584.2
      refine zr_lald hx hb hK hP (0) 1 (pw_at (by omega) (hG30)) rfl (0) (by omega) (by omega) (by omega) dL_law_607 ?_
      refine lv_iload hx hb dL_law_608 (lv_at hl 0 rfl) ?_
      refine zr_i2l hx hb hz584 dL_law_610 ?_
      refine zr_lcmp_eq hx hb 617 ⟨by omega, by omega⟩ ⟨by omega, by omega⟩ dL_law_611 dL_law_612 (by decide) (fun h_611 => ?_) (fun h_611 => ?_)
      · refine lv_goto (tgt := 973) hx hb dL_law_617 (by decide) ?_
        refine W.widen (k := cells + 1) (n := slots + 6) (by omega) (by omega) ?_
        exact kk G3 H locs ls ⟨V1, n1, wd1, el1, tc, o1, hC3, hM3, hG30⟩ hP hD hS (lv_sub hl [2, 3, 4, 5, 6] rfl)
      · exfalso; omega
  · exfalso; omega

set_option maxHeartbeats 4000000 in
set_option maxRecDepth 100000 in
/-- the law, determinant -/
theorem lm_determinant {p : Program} {l : Launch} {e : Env} {s : State} {m : MethodId} {below : List Frame} {meth : Method} {c : Code} {H : Heap} {locs : List Loc} {cells slots : Nat} {Q : State → Prop} {ls : Array Slot} {b L : Nat} {xs : Nat → Int32} {D : va_G} {cI cJ cE cF cR : ClassId} {A : Nat → Prop} {ad : Nat → Nat} {G : Nat → va_E} (C : lwC p l s m c b L xs D cI cJ cE cF cR A) (j : Nat) (hj : 5 * j + 5 ≤ L) (hcs : cells + 1 ≤ 601024 ∧ slots + 6 ≤ 7293034) (hW : lwS cI cJ cE cF cR ad G) (hP : va_P D vwCl (pw 488 ad G) H) (hD : va_D A (pw 488 ad G)) (hS : va_S A s.heap H locs) (hl : lv_has ls 7 [(4, .int (iZ (((5 * j : Nat) : Int)))), (3, .ref (ad 0)), (2, .ref (ad 480)), (1, .ref (ad 1)), (0, .ref (b))]) (kk : ∀ (G1 : Nat → va_E) (H1 : Heap) (locs1 : List Loc) (ls1 : Array Slot), lwS cI cJ cE cF cR ad G1 → va_P D vwCl (pw 488 ad G1) H1 → va_D A (pw 488 ad G1) → va_S A s.heap H1 locs1 → lv_has ls1 7 [(4, .int (iZ (((5 * j : Nat) : Int)))), (3, .ref (ad 0)), (2, .ref (ad 480)), (1, .ref (ad 1)), (0, .ref (b))] → W p l e room_1 s m #[Value.ref b] below meth c H1 locs1 (cells + 1) (slots + 6) Q (F0 m 973 ls1 [])) : W p l e room_1 s m #[Value.ref b] below meth c H locs cells slots Q (F0 m 620 ls []) := by
  obtain ⟨hx, hb, hml, hown, hts, hst, hN, hX9, hHC, hK, hA, hXs, hbl, hbA, hL25⟩ := id C
  obtain ⟨V, n, wd, el, th, o, hC9, hM, ho0⟩ := hW
  obtain ⟨hcs1, hcs2⟩ := hcs
  refine lv_aload_n hx hb dL_law_620 rfl (lv_at hl 3 rfl) ?_
  refine lv_aload_n hx hb dL_law_621 rfl (lv_at hl 4 rfl) ?_
  refine lv_iload hx hb dL_law_622 (lv_at hl 0 rfl) ?_
  refine lv_iconst (v := iZ 1) hx hb dL_law_624 rfl ?_
  refine zr_iadd hx hb dL_law_625 ?_
  refine zl_sld hx hb hXs hbl hbA hS (5 * j + 1) (by omega) (by omega) hL25 dL_law_626 ?_
  refine lv_aload_n hx hb dL_law_627 rfl (lv_at hl 4 rfl) ?_
  refine lv_iload hx hb dL_law_628 (lv_at hl 0 rfl) ?_
  refine lv_iconst (v := iZ 2) hx hb dL_law_630 rfl ?_
  refine zr_iadd hx hb dL_law_631 ?_
  refine zl_sld hx hb hXs hbl hbA hS (5 * j + 2) (by omega) (by omega) hL25 dL_law_632 ?_
  refine lv_aload_n hx hb dL_law_633 rfl (lv_at hl 1 rfl) ?_
  refine zc_H (As := [.ref (ad 1), .int (iZ ((xs (5 * j + 1)).toInt)), .int (iZ ((xs (5 * j + 2)).toInt)), .ref (ad 0)]) (rest := []) ⟨hx, hb, hml, hown, hts⟩ (h_determinant l D cI cJ cE cF cR hst 488 ad G ((xs (5 * j + 1)).toInt) ((xs (5 * j + 2)).toInt) V n wd el hC9 (by omega) (iZ_val (xs (5 * j + 1))).2 (iZ_val (xs (5 * j + 2))).2 o ho0) (vx_cwSW 4 hts gL_law_L_determinant rfl rfl rfl (by decide +kernel) ⟨Nat.le_of_ble_eq_true rfl, Nat.le_of_ble_eq_true rfl⟩) hN hX9 hHC hK hP hD hS hA rfl hl.1 (Nat.le_of_ble_eq_true rfl) dL_law_634 ⟨by show _ ≤ 601024; omega, by show _ ≤ 7293034; omega⟩ (fun k9 w1 H locs hk9 hp hP hD hS => ?_)
  obtain ⟨G1, rfl, hh, ho1⟩ := hp
  have hM1 : mSt cI cJ ad G1 V n el th := hM.keep ho1
  obtain ⟨fs1, hfs1⟩ := hM1.obj
  have hP : va_P D vwCl (pw 488 ad G1) H := hP
  have hD : va_D A (pw 488 ad G1) := hD
  refine lv_istore (lv' := [(5, .int (iZ (k9))), (4, .int (iZ (((5 * j : Nat) : Int)))), (3, .ref (ad 0)), (2, .ref (ad 480)), (1, .ref (ad 1)), (0, .ref (b))]) hx hb dL_law_637 hl (by decide) rfl (fun ls hl => ?_)
  refine lv_aload_n hx hb dL_law_639 rfl (lv_at hl 3 rfl) ?_
  refine lv_aload_n hx hb dL_law_640 rfl (lv_at hl 5 rfl) ?_
  refine lv_iload hx hb dL_law_641 (lv_at hl 1 rfl) ?_
  refine lv_iconst (v := iZ 1) hx hb dL_law_643 rfl ?_
  refine zr_iadd hx hb dL_law_644 ?_
  refine zl_sld hx hb hXs hbl hbA hS (5 * j + 1) (by omega) (by omega) hL25 dL_law_645 ?_
  refine lv_aload_n hx hb dL_law_646 rfl (lv_at hl 5 rfl) ?_
  refine lv_iload hx hb dL_law_647 (lv_at hl 1 rfl) ?_
  refine lv_iconst (v := iZ 2) hx hb dL_law_649 rfl ?_
  refine zr_iadd hx hb dL_law_650 ?_
  refine zl_sld hx hb hXs hbl hbA hS (5 * j + 2) (by omega) (by omega) hL25 dL_law_651 ?_
  refine zc_Vi (As := [.int (iZ ((xs (5 * j + 1)).toInt)), .int (iZ ((xs (5 * j + 2)).toInt))]) (rest := []) (wr := []) ⟨hx, hb, hml, hown, hts⟩ (m_determinant l D cI cJ cE cF cR 488 ad G1 V n el th hM1 (by omega) ((xs (5 * j + 1)).toInt) ((xs (5 * j + 2)).toInt) (iZ_val (xs (5 * j + 1))).2 (iZ_val (xs (5 * j + 2))).2) (cwV 2 hts gL_law_X11_determinant rfl rfl rfl (by decide +kernel) ⟨Nat.le_of_ble_eq_true rfl, Nat.le_of_ble_eq_true rfl⟩) hN hK hP hD hS hA (List.range 488) [] (pw_all _ _ _) rfl (pw_nd _) rfl (fun _ h9 => nomatch h9) (q0 := 480) (ci := 11) rfl rfl (pw_at (by omega) (hfs1)) rfl hl.1 (Nat.le_of_ble_eq_true rfl) dL_law_652 ⟨by show _ ≤ 601024; omega, by show _ ≤ 7293034; omega⟩ (fun r9 w1 H locs hz652 hp hP hD hS => ?_)
  obtain ⟨G2, rfl, hm, ho2⟩ := hp
  obtain ⟨V1, n1, wd1, el1, tc, o1, hC2, hM2, hG20, htk, hob, hk012⟩ := la_determinant hh hm ho2
  obtain ⟨fs2, hfs2⟩ := hM2.obj
  have hP : va_P D vwCl (pw 488 ad G2) H := hP
  have hD : va_D A (pw 488 ad G2) := hD
  refine lv_istore (lv' := [(6, .int (iZ (r9))), (5, .int (iZ (k9))), (4, .int (iZ (((5 * j : Nat) : Int)))), (3, .ref (ad 0)), (2, .ref (ad 480)), (1, .ref (ad 1)), (0, .ref (b))]) hx hb dL_law_655 hl (by decide) rfl (fun ls hl => ?_)
  refine lv_aload_n hx hb dL_law_657 rfl (lv_at hl 4 rfl) ?_
  refine zc_Vi (As := []) (rest := []) (wr := []) ⟨hx, hb, hml, hown, hts⟩ (m_thrown l D cI cJ cE cF cR 488 ad G2 V1 n1 el1 tc hM2 (by omega) ⟨by omega, by omega⟩) (cwV 0 hts gL_law_X11_thrown rfl rfl rfl (by decide +kernel) ⟨Nat.le_of_ble_eq_true rfl, Nat.le_of_ble_eq_true rfl⟩) hN hK hP hD hS hA (List.range 488) [] (pw_all _ _ _) rfl (pw_nd _) rfl (fun _ h9 => nomatch h9) (q0 := 480) (ci := 11) rfl rfl (pw_at (by omega) (hfs2)) rfl hl.1 (Nat.le_of_ble_eq_true rfl) dL_law_658 ⟨by show _ ≤ 601024; omega, by show _ ≤ 7293034; omega⟩ (fun t9 w1 H locs hz658 hp hP hD hS => ?_)
  obtain ⟨G3, rfl, ⟨hth, hM3⟩, ho3⟩ := hp
  have hG30 : G3 0 = aJ cJ 1 o1 := (ho3 0 (by omega)).trans hG20
  have hC3 : pCs cI cJ cE cF cR 488 ad G3 (V1) (n1) (wd1) (el1) := hC2.at0 (fun i _ h9 => ho3 i (Or.inl h9))
  have hP : va_P D vwCl (pw 488 ad G3) H := hP
  have hD : va_D A (pw 488 ad G3) := hD
  refine lv_iload hx hb dL_law_661 (lv_at hl 1 rfl) ?_
  refine zr_icmp_eq hx hb 668 ⟨by omega, by omega⟩ ⟨by omega, by omega⟩ dL_law_663 (by decide) (fun h_663 => ?_) (fun h_663 => ?_)
  · refine lv_iload hx hb dL_law_668 (lv_at hl 1 rfl) ?_
    refine zr_if_ne hx hb 685 ⟨by omega, by omega⟩ dL_law_670 (by decide) (fun h_670 => ?_) (fun h_670 => ?_)
    · refine lv_goto (tgt := 973) hx hb dL_law_685 (by decide) ?_
      refine W.widen (k := cells + 1) (n := slots + 6) (by omega) (by omega) ?_
      exact kk G3 H locs ls ⟨V1, n1, wd1, el1, tc, o1, hC3, hM3, hG30⟩ hP hD hS (lv_sub hl [2, 3, 4, 5, 6] rfl)
    · refine lv_aload_n hx hb dL_law_673 rfl (lv_at hl 3 rfl) ?_
      refine lv_iconst (v := iZ 0) hx hb dL_law_674 rfl ?_
      have hor : o1 0 = r9 := hob (by omega)
      have hr1 := hz652.1
      have hr2 := hz652.2
      refine zr_lald hx hb hK hP (0) 1 (pw_at (by omega) (hG30)) rfl (0) (by omega) (by omega) (by omega) dL_law_675 ?_
      refine lv_iload hx hb dL_law_676 (lv_at hl 0 rfl) ?_
      refine zr_i2l hx hb hz652 dL_law_678 ?_
      refine zr_lcmp_eq hx hb 685 ⟨by omega, by omega⟩ ⟨by omega, by omega⟩ dL_law_679 dL_law_680 (by decide) (fun h_679 => ?_) (fun h_679 => ?_)
      · refine lv_goto (tgt := 973) hx hb dL_law_685 (by decide) ?_
        refine W.widen (k := cells + 1) (n := slots + 6) (by omega) (by omega) ?_
        exact kk G3 H locs ls ⟨V1, n1, wd1, el1, tc, o1, hC3, hM3, hG30⟩ hP hD hS (lv_sub hl [2, 3, 4, 5, 6] rfl)
      · exfalso; omega
  · exfalso; omega

set_option maxHeartbeats 4000000 in
set_option maxRecDepth 100000 in
/-- the law, cell -/
theorem lm_cell {p : Program} {l : Launch} {e : Env} {s : State} {m : MethodId} {below : List Frame} {meth : Method} {c : Code} {H : Heap} {locs : List Loc} {cells slots : Nat} {Q : State → Prop} {ls : Array Slot} {b L : Nat} {xs : Nat → Int32} {D : va_G} {cI cJ cE cF cR : ClassId} {A : Nat → Prop} {ad : Nat → Nat} {G : Nat → va_E} (C : lwC p l s m c b L xs D cI cJ cE cF cR A) (j : Nat) (hj : 5 * j + 5 ≤ L) (hcs : cells + 1 ≤ 601024 ∧ slots + 6 ≤ 7293034) (hW : lwS cI cJ cE cF cR ad G) (hP : va_P D vwCl (pw 488 ad G) H) (hD : va_D A (pw 488 ad G)) (hS : va_S A s.heap H locs) (hl : lv_has ls 7 [(4, .int (iZ (((5 * j : Nat) : Int)))), (3, .ref (ad 0)), (2, .ref (ad 480)), (1, .ref (ad 1)), (0, .ref (b))]) (kk : ∀ (G1 : Nat → va_E) (H1 : Heap) (locs1 : List Loc) (ls1 : Array Slot), lwS cI cJ cE cF cR ad G1 → va_P D vwCl (pw 488 ad G1) H1 → va_D A (pw 488 ad G1) → va_S A s.heap H1 locs1 → lv_has ls1 7 [(4, .int (iZ (((5 * j : Nat) : Int)))), (3, .ref (ad 0)), (2, .ref (ad 480)), (1, .ref (ad 1)), (0, .ref (b))] → W p l e room_1 s m #[Value.ref b] below meth c H1 locs1 (cells + 1) (slots + 6) Q (F0 m 973 ls1 [])) : W p l e room_1 s m #[Value.ref b] below meth c H locs cells slots Q (F0 m 688 ls []) := by
  obtain ⟨hx, hb, hml, hown, hts, hst, hN, hX9, hHC, hK, hA, hXs, hbl, hbA, hL25⟩ := id C
  obtain ⟨V, n, wd, el, th, o, hC9, hM, ho0⟩ := hW
  obtain ⟨hcs1, hcs2⟩ := hcs
  refine lv_aload_n hx hb dL_law_688 rfl (lv_at hl 3 rfl) ?_
  refine lv_aload_n hx hb dL_law_689 rfl (lv_at hl 4 rfl) ?_
  refine lv_iload hx hb dL_law_690 (lv_at hl 0 rfl) ?_
  refine lv_iconst (v := iZ 1) hx hb dL_law_692 rfl ?_
  refine zr_iadd hx hb dL_law_693 ?_
  refine zl_sld hx hb hXs hbl hbA hS (5 * j + 1) (by omega) (by omega) hL25 dL_law_694 ?_
  refine lv_aload_n hx hb dL_law_695 rfl (lv_at hl 4 rfl) ?_
  refine lv_iload hx hb dL_law_696 (lv_at hl 0 rfl) ?_
  refine lv_iconst (v := iZ 2) hx hb dL_law_698 rfl ?_
  refine zr_iadd hx hb dL_law_699 ?_
  refine zl_sld hx hb hXs hbl hbA hS (5 * j + 2) (by omega) (by omega) hL25 dL_law_700 ?_
  refine lv_aload_n hx hb dL_law_701 rfl (lv_at hl 4 rfl) ?_
  refine lv_iload hx hb dL_law_702 (lv_at hl 0 rfl) ?_
  refine lv_iconst (v := iZ 3) hx hb dL_law_704 rfl ?_
  refine zr_iadd hx hb dL_law_705 ?_
  refine zl_sld hx hb hXs hbl hbA hS (5 * j + 3) (by omega) (by omega) hL25 dL_law_706 ?_
  refine lv_aload_n hx hb dL_law_707 rfl (lv_at hl 4 rfl) ?_
  refine lv_iload hx hb dL_law_708 (lv_at hl 0 rfl) ?_
  refine lv_iconst (v := iZ 4) hx hb dL_law_710 rfl ?_
  refine zr_iadd hx hb dL_law_711 ?_
  refine zl_sld hx hb hXs hbl hbA hS (5 * j + 4) (by omega) (by omega) hL25 dL_law_712 ?_
  refine lv_aload_n hx hb dL_law_713 rfl (lv_at hl 1 rfl) ?_
  refine zc_H (As := [.ref (ad 1), .int (iZ ((xs (5 * j + 1)).toInt)), .int (iZ ((xs (5 * j + 2)).toInt)), .int (iZ ((xs (5 * j + 3)).toInt)), .int (iZ ((xs (5 * j + 4)).toInt)), .ref (ad 0)]) (rest := []) ⟨hx, hb, hml, hown, hts⟩ (h_cell l D cI cJ cE cF cR hst 488 ad G ((xs (5 * j + 1)).toInt) ((xs (5 * j + 2)).toInt) ((xs (5 * j + 3)).toInt) ((xs (5 * j + 4)).toInt) V n wd el hC9 (by omega) (iZ_val (xs (5 * j + 1))).2 (iZ_val (xs (5 * j + 2))).2 (iZ_val (xs (5 * j + 3))).2 (iZ_val (xs (5 * j + 4))).2 o ho0) (vx_cwSW 6 hts gL_law_L_cell rfl rfl rfl (by decide +kernel) ⟨Nat.le_of_ble_eq_true rfl, Nat.le_of_ble_eq_true rfl⟩) hN hX9 hHC hK hP hD hS hA rfl hl.1 (Nat.le_of_ble_eq_true rfl) dL_law_714 ⟨by show _ ≤ 601024; omega, by show _ ≤ 7293034; omega⟩ (fun k9 w1 H locs hk9 hp hP hD hS => ?_)
  obtain ⟨G1, rfl, hh, ho1⟩ := hp
  have hM1 : mSt cI cJ ad G1 V n el th := hM.keep ho1
  obtain ⟨fs1, hfs1⟩ := hM1.obj
  have hP : va_P D vwCl (pw 488 ad G1) H := hP
  have hD : va_D A (pw 488 ad G1) := hD
  refine lv_istore (lv' := [(5, .int (iZ (k9))), (4, .int (iZ (((5 * j : Nat) : Int)))), (3, .ref (ad 0)), (2, .ref (ad 480)), (1, .ref (ad 1)), (0, .ref (b))]) hx hb dL_law_717 hl (by decide) rfl (fun ls hl => ?_)
  refine lv_aload_n hx hb dL_law_719 rfl (lv_at hl 3 rfl) ?_
  refine lv_aload_n hx hb dL_law_720 rfl (lv_at hl 5 rfl) ?_
  refine lv_iload hx hb dL_law_721 (lv_at hl 1 rfl) ?_
  refine lv_iconst (v := iZ 1) hx hb dL_law_723 rfl ?_
  refine zr_iadd hx hb dL_law_724 ?_
  refine zl_sld hx hb hXs hbl hbA hS (5 * j + 1) (by omega) (by omega) hL25 dL_law_725 ?_
  refine lv_aload_n hx hb dL_law_726 rfl (lv_at hl 5 rfl) ?_
  refine lv_iload hx hb dL_law_727 (lv_at hl 1 rfl) ?_
  refine lv_iconst (v := iZ 2) hx hb dL_law_729 rfl ?_
  refine zr_iadd hx hb dL_law_730 ?_
  refine zl_sld hx hb hXs hbl hbA hS (5 * j + 2) (by omega) (by omega) hL25 dL_law_731 ?_
  refine lv_aload_n hx hb dL_law_732 rfl (lv_at hl 5 rfl) ?_
  refine lv_iload hx hb dL_law_733 (lv_at hl 1 rfl) ?_
  refine lv_iconst (v := iZ 3) hx hb dL_law_735 rfl ?_
  refine zr_iadd hx hb dL_law_736 ?_
  refine zl_sld hx hb hXs hbl hbA hS (5 * j + 3) (by omega) (by omega) hL25 dL_law_737 ?_
  refine lv_aload_n hx hb dL_law_738 rfl (lv_at hl 5 rfl) ?_
  refine lv_iload hx hb dL_law_739 (lv_at hl 1 rfl) ?_
  refine lv_iconst (v := iZ 4) hx hb dL_law_741 rfl ?_
  refine zr_iadd hx hb dL_law_742 ?_
  refine zl_sld hx hb hXs hbl hbA hS (5 * j + 4) (by omega) (by omega) hL25 dL_law_743 ?_
  refine zc_Vi (As := [.int (iZ ((xs (5 * j + 1)).toInt)), .int (iZ ((xs (5 * j + 2)).toInt)), .int (iZ ((xs (5 * j + 3)).toInt)), .int (iZ ((xs (5 * j + 4)).toInt))]) (rest := []) (wr := []) ⟨hx, hb, hml, hown, hts⟩ (m_cell l D cI cJ cE cF cR 488 ad G1 V n el th hM1 (by omega) ((xs (5 * j + 1)).toInt) ((xs (5 * j + 2)).toInt) ((xs (5 * j + 3)).toInt) ((xs (5 * j + 4)).toInt) (iZ_val (xs (5 * j + 1))).2 (iZ_val (xs (5 * j + 2))).2 (iZ_val (xs (5 * j + 3))).2 (iZ_val (xs (5 * j + 4))).2) (cwV 4 hts gL_law_X11_cell rfl rfl rfl (by decide +kernel) ⟨Nat.le_of_ble_eq_true rfl, Nat.le_of_ble_eq_true rfl⟩) hN hK hP hD hS hA (List.range 488) [] (pw_all _ _ _) rfl (pw_nd _) rfl (fun _ h9 => nomatch h9) (q0 := 480) (ci := 11) rfl rfl (pw_at (by omega) (hfs1)) rfl hl.1 (Nat.le_of_ble_eq_true rfl) dL_law_744 ⟨by show _ ≤ 601024; omega, by show _ ≤ 7293034; omega⟩ (fun r9 w1 H locs hz744 hp hP hD hS => ?_)
  obtain ⟨G2, rfl, hm, ho2⟩ := hp
  obtain ⟨V1, n1, wd1, el1, tc, o1, hC2, hM2, hG20, htk, hob, hk012⟩ := la_cell hh hm ho2
  obtain ⟨fs2, hfs2⟩ := hM2.obj
  have hP : va_P D vwCl (pw 488 ad G2) H := hP
  have hD : va_D A (pw 488 ad G2) := hD
  refine lv_istore (lv' := [(6, .int (iZ (r9))), (5, .int (iZ (k9))), (4, .int (iZ (((5 * j : Nat) : Int)))), (3, .ref (ad 0)), (2, .ref (ad 480)), (1, .ref (ad 1)), (0, .ref (b))]) hx hb dL_law_747 hl (by decide) rfl (fun ls hl => ?_)
  refine lv_aload_n hx hb dL_law_749 rfl (lv_at hl 4 rfl) ?_
  refine zc_Vi (As := []) (rest := []) (wr := []) ⟨hx, hb, hml, hown, hts⟩ (m_thrown l D cI cJ cE cF cR 488 ad G2 V1 n1 el1 tc hM2 (by omega) ⟨by omega, by omega⟩) (cwV 0 hts gL_law_X11_thrown rfl rfl rfl (by decide +kernel) ⟨Nat.le_of_ble_eq_true rfl, Nat.le_of_ble_eq_true rfl⟩) hN hK hP hD hS hA (List.range 488) [] (pw_all _ _ _) rfl (pw_nd _) rfl (fun _ h9 => nomatch h9) (q0 := 480) (ci := 11) rfl rfl (pw_at (by omega) (hfs2)) rfl hl.1 (Nat.le_of_ble_eq_true rfl) dL_law_750 ⟨by show _ ≤ 601024; omega, by show _ ≤ 7293034; omega⟩ (fun t9 w1 H locs hz750 hp hP hD hS => ?_)
  obtain ⟨G3, rfl, ⟨hth, hM3⟩, ho3⟩ := hp
  have hG30 : G3 0 = aJ cJ 1 o1 := (ho3 0 (by omega)).trans hG20
  have hC3 : pCs cI cJ cE cF cR 488 ad G3 (V1) (n1) (wd1) (el1) := hC2.at0 (fun i _ h9 => ho3 i (Or.inl h9))
  have hP : va_P D vwCl (pw 488 ad G3) H := hP
  have hD : va_D A (pw 488 ad G3) := hD
  refine lv_iload hx hb dL_law_753 (lv_at hl 1 rfl) ?_
  refine zr_icmp_eq hx hb 760 ⟨by omega, by omega⟩ ⟨by omega, by omega⟩ dL_law_755 (by decide) (fun h_755 => ?_) (fun h_755 => ?_)
  · refine lv_iload hx hb dL_law_760 (lv_at hl 1 rfl) ?_
    refine zr_if_ne hx hb 777 ⟨by omega, by omega⟩ dL_law_762 (by decide) (fun h_762 => ?_) (fun h_762 => ?_)
    · refine lv_goto (tgt := 973) hx hb dL_law_777 (by decide) ?_
      refine W.widen (k := cells + 1) (n := slots + 6) (by omega) (by omega) ?_
      exact kk G3 H locs ls ⟨V1, n1, wd1, el1, tc, o1, hC3, hM3, hG30⟩ hP hD hS (lv_sub hl [2, 3, 4, 5, 6] rfl)
    · refine lv_aload_n hx hb dL_law_765 rfl (lv_at hl 3 rfl) ?_
      refine lv_iconst (v := iZ 0) hx hb dL_law_766 rfl ?_
      have hor : o1 0 = r9 := hob (by omega)
      have hr1 := hz744.1
      have hr2 := hz744.2
      refine zr_lald hx hb hK hP (0) 1 (pw_at (by omega) (hG30)) rfl (0) (by omega) (by omega) (by omega) dL_law_767 ?_
      refine lv_iload hx hb dL_law_768 (lv_at hl 0 rfl) ?_
      refine zr_i2l hx hb hz744 dL_law_770 ?_
      refine zr_lcmp_eq hx hb 777 ⟨by omega, by omega⟩ ⟨by omega, by omega⟩ dL_law_771 dL_law_772 (by decide) (fun h_771 => ?_) (fun h_771 => ?_)
      · refine lv_goto (tgt := 973) hx hb dL_law_777 (by decide) ?_
        refine W.widen (k := cells + 1) (n := slots + 6) (by omega) (by omega) ?_
        exact kk G3 H locs ls ⟨V1, n1, wd1, el1, tc, o1, hC3, hM3, hG30⟩ hP hD hS (lv_sub hl [2, 3, 4, 5, 6] rfl)
      · exfalso; omega
  · exfalso; omega

set_option maxHeartbeats 4000000 in
set_option maxRecDepth 100000 in
/-- the law, told -/
theorem lm_told {p : Program} {l : Launch} {e : Env} {s : State} {m : MethodId} {below : List Frame} {meth : Method} {c : Code} {H : Heap} {locs : List Loc} {cells slots : Nat} {Q : State → Prop} {ls : Array Slot} {b L : Nat} {xs : Nat → Int32} {D : va_G} {cI cJ cE cF cR : ClassId} {A : Nat → Prop} {ad : Nat → Nat} {G : Nat → va_E} (C : lwC p l s m c b L xs D cI cJ cE cF cR A) (j : Nat) (hj : 5 * j + 5 ≤ L) (hcs : cells + 1 ≤ 601024 ∧ slots + 6 ≤ 7293034) (hW : lwS cI cJ cE cF cR ad G) (hP : va_P D vwCl (pw 488 ad G) H) (hD : va_D A (pw 488 ad G)) (hS : va_S A s.heap H locs) (hl : lv_has ls 7 [(4, .int (iZ (((5 * j : Nat) : Int)))), (3, .ref (ad 0)), (2, .ref (ad 480)), (1, .ref (ad 1)), (0, .ref (b))]) (kk : ∀ (G1 : Nat → va_E) (H1 : Heap) (locs1 : List Loc) (ls1 : Array Slot), lwS cI cJ cE cF cR ad G1 → va_P D vwCl (pw 488 ad G1) H1 → va_D A (pw 488 ad G1) → va_S A s.heap H1 locs1 → lv_has ls1 7 [(4, .int (iZ (((5 * j : Nat) : Int)))), (3, .ref (ad 0)), (2, .ref (ad 480)), (1, .ref (ad 1)), (0, .ref (b))] → W p l e room_1 s m #[Value.ref b] below meth c H1 locs1 (cells + 1) (slots + 6) Q (F0 m 973 ls1 [])) : W p l e room_1 s m #[Value.ref b] below meth c H locs cells slots Q (F0 m 780 ls []) := by
  obtain ⟨hx, hb, hml, hown, hts, hst, hN, hX9, hHC, hK, hA, hXs, hbl, hbA, hL25⟩ := id C
  obtain ⟨V, n, wd, el, th, o, hC9, hM, ho0⟩ := hW
  obtain ⟨hcs1, hcs2⟩ := hcs
  refine lv_aload_n hx hb dL_law_780 rfl (lv_at hl 3 rfl) ?_
  refine lv_aload_n hx hb dL_law_781 rfl (lv_at hl 4 rfl) ?_
  refine lv_iload hx hb dL_law_782 (lv_at hl 0 rfl) ?_
  refine lv_iconst (v := iZ 1) hx hb dL_law_784 rfl ?_
  refine zr_iadd hx hb dL_law_785 ?_
  refine zl_sld hx hb hXs hbl hbA hS (5 * j + 1) (by omega) (by omega) hL25 dL_law_786 ?_
  refine lv_aload_n hx hb dL_law_787 rfl (lv_at hl 4 rfl) ?_
  refine lv_iload hx hb dL_law_788 (lv_at hl 0 rfl) ?_
  refine lv_iconst (v := iZ 2) hx hb dL_law_790 rfl ?_
  refine zr_iadd hx hb dL_law_791 ?_
  refine zl_sld hx hb hXs hbl hbA hS (5 * j + 2) (by omega) (by omega) hL25 dL_law_792 ?_
  refine lv_aload_n hx hb dL_law_793 rfl (lv_at hl 4 rfl) ?_
  refine lv_iload hx hb dL_law_794 (lv_at hl 0 rfl) ?_
  refine lv_iconst (v := iZ 3) hx hb dL_law_796 rfl ?_
  refine zr_iadd hx hb dL_law_797 ?_
  refine zl_sld hx hb hXs hbl hbA hS (5 * j + 3) (by omega) (by omega) hL25 dL_law_798 ?_
  refine lv_aload_n hx hb dL_law_799 rfl (lv_at hl 4 rfl) ?_
  refine lv_iload hx hb dL_law_800 (lv_at hl 0 rfl) ?_
  refine lv_iconst (v := iZ 4) hx hb dL_law_802 rfl ?_
  refine zr_iadd hx hb dL_law_803 ?_
  refine zl_sld hx hb hXs hbl hbA hS (5 * j + 4) (by omega) (by omega) hL25 dL_law_804 ?_
  refine lv_aload_n hx hb dL_law_805 rfl (lv_at hl 1 rfl) ?_
  refine zc_H (As := [.ref (ad 1), .int (iZ ((xs (5 * j + 1)).toInt)), .int (iZ ((xs (5 * j + 2)).toInt)), .int (iZ ((xs (5 * j + 3)).toInt)), .int (iZ ((xs (5 * j + 4)).toInt)), .ref (ad 0)]) (rest := []) ⟨hx, hb, hml, hown, hts⟩ (h_told l D cI cJ cE cF cR hst 488 ad G ((xs (5 * j + 1)).toInt) ((xs (5 * j + 2)).toInt) ((xs (5 * j + 3)).toInt) ((xs (5 * j + 4)).toInt) V n wd el hC9 (by omega) (iZ_val (xs (5 * j + 1))).2 (iZ_val (xs (5 * j + 2))).2 (iZ_val (xs (5 * j + 3))).2 (iZ_val (xs (5 * j + 4))).2 o ho0) (vx_cwSW 6 hts gL_law_L_told rfl rfl rfl (by decide +kernel) ⟨Nat.le_of_ble_eq_true rfl, Nat.le_of_ble_eq_true rfl⟩) hN hX9 hHC hK hP hD hS hA rfl hl.1 (Nat.le_of_ble_eq_true rfl) dL_law_806 ⟨by show _ ≤ 601024; omega, by show _ ≤ 7293034; omega⟩ (fun k9 w1 H locs hk9 hp hP hD hS => ?_)
  obtain ⟨G1, rfl, hh, ho1⟩ := hp
  have hM1 : mSt cI cJ ad G1 V n el th := hM.keep ho1
  obtain ⟨fs1, hfs1⟩ := hM1.obj
  have hP : va_P D vwCl (pw 488 ad G1) H := hP
  have hD : va_D A (pw 488 ad G1) := hD
  refine lv_istore (lv' := [(5, .int (iZ (k9))), (4, .int (iZ (((5 * j : Nat) : Int)))), (3, .ref (ad 0)), (2, .ref (ad 480)), (1, .ref (ad 1)), (0, .ref (b))]) hx hb dL_law_809 hl (by decide) rfl (fun ls hl => ?_)
  refine lv_aload_n hx hb dL_law_811 rfl (lv_at hl 3 rfl) ?_
  refine lv_aload_n hx hb dL_law_812 rfl (lv_at hl 5 rfl) ?_
  refine lv_iload hx hb dL_law_813 (lv_at hl 1 rfl) ?_
  refine lv_iconst (v := iZ 1) hx hb dL_law_815 rfl ?_
  refine zr_iadd hx hb dL_law_816 ?_
  refine zl_sld hx hb hXs hbl hbA hS (5 * j + 1) (by omega) (by omega) hL25 dL_law_817 ?_
  refine lv_aload_n hx hb dL_law_818 rfl (lv_at hl 5 rfl) ?_
  refine lv_iload hx hb dL_law_819 (lv_at hl 1 rfl) ?_
  refine lv_iconst (v := iZ 2) hx hb dL_law_821 rfl ?_
  refine zr_iadd hx hb dL_law_822 ?_
  refine zl_sld hx hb hXs hbl hbA hS (5 * j + 2) (by omega) (by omega) hL25 dL_law_823 ?_
  refine lv_aload_n hx hb dL_law_824 rfl (lv_at hl 5 rfl) ?_
  refine lv_iload hx hb dL_law_825 (lv_at hl 1 rfl) ?_
  refine lv_iconst (v := iZ 3) hx hb dL_law_827 rfl ?_
  refine zr_iadd hx hb dL_law_828 ?_
  refine zl_sld hx hb hXs hbl hbA hS (5 * j + 3) (by omega) (by omega) hL25 dL_law_829 ?_
  refine lv_aload_n hx hb dL_law_830 rfl (lv_at hl 5 rfl) ?_
  refine lv_iload hx hb dL_law_831 (lv_at hl 1 rfl) ?_
  refine lv_iconst (v := iZ 4) hx hb dL_law_833 rfl ?_
  refine zr_iadd hx hb dL_law_834 ?_
  refine zl_sld hx hb hXs hbl hbA hS (5 * j + 4) (by omega) (by omega) hL25 dL_law_835 ?_
  refine zc_Vi (As := [.int (iZ ((xs (5 * j + 1)).toInt)), .int (iZ ((xs (5 * j + 2)).toInt)), .int (iZ ((xs (5 * j + 3)).toInt)), .int (iZ ((xs (5 * j + 4)).toInt))]) (rest := []) (wr := []) ⟨hx, hb, hml, hown, hts⟩ (m_told l D cI cJ cE cF cR 488 ad G1 V n el th hM1 (by omega) ((xs (5 * j + 1)).toInt) ((xs (5 * j + 2)).toInt) ((xs (5 * j + 3)).toInt) ((xs (5 * j + 4)).toInt) (iZ_val (xs (5 * j + 1))).2 (iZ_val (xs (5 * j + 2))).2 (iZ_val (xs (5 * j + 3))).2 (iZ_val (xs (5 * j + 4))).2) (cwV 4 hts gL_law_X11_told rfl rfl rfl (by decide +kernel) ⟨Nat.le_of_ble_eq_true rfl, Nat.le_of_ble_eq_true rfl⟩) hN hK hP hD hS hA (List.range 488) [] (pw_all _ _ _) rfl (pw_nd _) rfl (fun _ h9 => nomatch h9) (q0 := 480) (ci := 11) rfl rfl (pw_at (by omega) (hfs1)) rfl hl.1 (Nat.le_of_ble_eq_true rfl) dL_law_836 ⟨by show _ ≤ 601024; omega, by show _ ≤ 7293034; omega⟩ (fun r9 w1 H locs hz836 hp hP hD hS => ?_)
  obtain ⟨G2, rfl, hm, ho2⟩ := hp
  obtain ⟨V1, n1, wd1, el1, tc, o1, hC2, hM2, hG20, htk, hob, hk012⟩ := la_told hh hm ho2
  obtain ⟨fs2, hfs2⟩ := hM2.obj
  have hP : va_P D vwCl (pw 488 ad G2) H := hP
  have hD : va_D A (pw 488 ad G2) := hD
  refine lv_istore (lv' := [(6, .int (iZ (r9))), (5, .int (iZ (k9))), (4, .int (iZ (((5 * j : Nat) : Int)))), (3, .ref (ad 0)), (2, .ref (ad 480)), (1, .ref (ad 1)), (0, .ref (b))]) hx hb dL_law_839 hl (by decide) rfl (fun ls hl => ?_)
  refine lv_aload_n hx hb dL_law_841 rfl (lv_at hl 4 rfl) ?_
  refine zc_Vi (As := []) (rest := []) (wr := []) ⟨hx, hb, hml, hown, hts⟩ (m_thrown l D cI cJ cE cF cR 488 ad G2 V1 n1 el1 tc hM2 (by omega) ⟨by omega, by omega⟩) (cwV 0 hts gL_law_X11_thrown rfl rfl rfl (by decide +kernel) ⟨Nat.le_of_ble_eq_true rfl, Nat.le_of_ble_eq_true rfl⟩) hN hK hP hD hS hA (List.range 488) [] (pw_all _ _ _) rfl (pw_nd _) rfl (fun _ h9 => nomatch h9) (q0 := 480) (ci := 11) rfl rfl (pw_at (by omega) (hfs2)) rfl hl.1 (Nat.le_of_ble_eq_true rfl) dL_law_842 ⟨by show _ ≤ 601024; omega, by show _ ≤ 7293034; omega⟩ (fun t9 w1 H locs hz842 hp hP hD hS => ?_)
  obtain ⟨G3, rfl, ⟨hth, hM3⟩, ho3⟩ := hp
  have hG30 : G3 0 = aJ cJ 1 o1 := (ho3 0 (by omega)).trans hG20
  have hC3 : pCs cI cJ cE cF cR 488 ad G3 (V1) (n1) (wd1) (el1) := hC2.at0 (fun i _ h9 => ho3 i (Or.inl h9))
  have hP : va_P D vwCl (pw 488 ad G3) H := hP
  have hD : va_D A (pw 488 ad G3) := hD
  refine lv_iload hx hb dL_law_845 (lv_at hl 1 rfl) ?_
  refine zr_icmp_eq hx hb 852 ⟨by omega, by omega⟩ ⟨by omega, by omega⟩ dL_law_847 (by decide) (fun h_847 => ?_) (fun h_847 => ?_)
  · refine lv_iload hx hb dL_law_852 (lv_at hl 1 rfl) ?_
    refine zr_if_ne hx hb 869 ⟨by omega, by omega⟩ dL_law_854 (by decide) (fun h_854 => ?_) (fun h_854 => ?_)
    · refine lv_goto (tgt := 973) hx hb dL_law_869 (by decide) ?_
      refine W.widen (k := cells + 1) (n := slots + 6) (by omega) (by omega) ?_
      exact kk G3 H locs ls ⟨V1, n1, wd1, el1, tc, o1, hC3, hM3, hG30⟩ hP hD hS (lv_sub hl [2, 3, 4, 5, 6] rfl)
    · refine lv_aload_n hx hb dL_law_857 rfl (lv_at hl 3 rfl) ?_
      refine lv_iconst (v := iZ 0) hx hb dL_law_858 rfl ?_
      have hor : o1 0 = r9 := hob (by omega)
      have hr1 := hz836.1
      have hr2 := hz836.2
      refine zr_lald hx hb hK hP (0) 1 (pw_at (by omega) (hG30)) rfl (0) (by omega) (by omega) (by omega) dL_law_859 ?_
      refine lv_iload hx hb dL_law_860 (lv_at hl 0 rfl) ?_
      refine zr_i2l hx hb hz836 dL_law_862 ?_
      refine zr_lcmp_eq hx hb 869 ⟨by omega, by omega⟩ ⟨by omega, by omega⟩ dL_law_863 dL_law_864 (by decide) (fun h_863 => ?_) (fun h_863 => ?_)
      · refine lv_goto (tgt := 973) hx hb dL_law_869 (by decide) ?_
        refine W.widen (k := cells + 1) (n := slots + 6) (by omega) (by omega) ?_
        exact kk G3 H locs ls ⟨V1, n1, wd1, el1, tc, o1, hC3, hM3, hG30⟩ hP hD hS (lv_sub hl [2, 3, 4, 5, 6] rfl)
      · exfalso; omega
  · exfalso; omega

set_option maxHeartbeats 4000000 in
set_option maxRecDepth 100000 in
/-- the law, modulo -/
theorem lm_modulo {p : Program} {l : Launch} {e : Env} {s : State} {m : MethodId} {below : List Frame} {meth : Method} {c : Code} {H : Heap} {locs : List Loc} {cells slots : Nat} {Q : State → Prop} {ls : Array Slot} {b L : Nat} {xs : Nat → Int32} {D : va_G} {cI cJ cE cF cR : ClassId} {A : Nat → Prop} {ad : Nat → Nat} {G : Nat → va_E} (C : lwC p l s m c b L xs D cI cJ cE cF cR A) (j : Nat) (hj : 5 * j + 5 ≤ L) (hcs : cells + 1 ≤ 601024 ∧ slots + 6 ≤ 7293034) (hW : lwS cI cJ cE cF cR ad G) (hP : va_P D vwCl (pw 488 ad G) H) (hD : va_D A (pw 488 ad G)) (hS : va_S A s.heap H locs) (hl : lv_has ls 7 [(4, .int (iZ (((5 * j : Nat) : Int)))), (3, .ref (ad 0)), (2, .ref (ad 480)), (1, .ref (ad 1)), (0, .ref (b))]) (kk : ∀ (G1 : Nat → va_E) (H1 : Heap) (locs1 : List Loc) (ls1 : Array Slot), lwS cI cJ cE cF cR ad G1 → va_P D vwCl (pw 488 ad G1) H1 → va_D A (pw 488 ad G1) → va_S A s.heap H1 locs1 → lv_has ls1 7 [(4, .int (iZ (((5 * j : Nat) : Int)))), (3, .ref (ad 0)), (2, .ref (ad 480)), (1, .ref (ad 1)), (0, .ref (b))] → W p l e room_1 s m #[Value.ref b] below meth c H1 locs1 (cells + 1) (slots + 6) Q (F0 m 973 ls1 [])) : W p l e room_1 s m #[Value.ref b] below meth c H locs cells slots Q (F0 m 872 ls []) := by
  obtain ⟨hx, hb, hml, hown, hts, hst, hN, hX9, hHC, hK, hA, hXs, hbl, hbA, hL25⟩ := id C
  obtain ⟨V, n, wd, el, th, o, hC9, hM, ho0⟩ := hW
  obtain ⟨hcs1, hcs2⟩ := hcs
  refine lv_aload_n hx hb dL_law_872 rfl (lv_at hl 3 rfl) ?_
  refine lv_aload_n hx hb dL_law_873 rfl (lv_at hl 4 rfl) ?_
  refine lv_iload hx hb dL_law_874 (lv_at hl 0 rfl) ?_
  refine lv_iconst (v := iZ 1) hx hb dL_law_876 rfl ?_
  refine zr_iadd hx hb dL_law_877 ?_
  refine zl_sld hx hb hXs hbl hbA hS (5 * j + 1) (by omega) (by omega) hL25 dL_law_878 ?_
  refine zc_Vi (As := [.int (iZ ((xs (5 * j + 1)).toInt))]) (rest := []) (wr := []) ⟨hx, hb, hml, hown, hts⟩ (p_modulo l D cI cJ cE cF cR 488 ad G ((xs (5 * j + 1)).toInt) V n wd el hC9 (by omega) (iZ_val (xs (5 * j + 1))).2) (cwV 1 hts gL_law_X10_modulo rfl rfl rfl (by decide +kernel) ⟨Nat.le_of_ble_eq_true rfl, Nat.le_of_ble_eq_true rfl⟩) hN hK hP hD hS hA (List.range 488) [] (pw_all _ _ _) rfl (pw_nd _) rfl (fun _ h9 => nomatch h9) (q0 := 1) (ci := 10) rfl rfl (pw_at (by omega) (hC9.1)) rfl hl.1 (Nat.le_of_ble_eq_true rfl) dL_law_879 ⟨by show _ ≤ 601024; omega, by show _ ≤ 7293034; omega⟩ (fun a9 w1 H locs hz879 hp hP hD hS => ?_)
  obtain ⟨G1, rfl, hh, hZ1, ho1⟩ := hp
  have hC1 : pCs cI cJ cE cF cR 488 ad G1 (V) (n) (wd) (el) := by
    obtain ⟨hso, ht, hQ9, ⟨hsh, hre, hsq⟩, ρ, PR, ⟨hst9, hwk, _⟩, _⟩ := id hC9
    exact hC9.keep (hwk.keep (fun i hi => ho1 i (by omega))) hZ1 (hsh.keep (fun i h1 h2 => ho1 i (by omega))) (fun i hi => ho1 i (by omega))
  have hM1 : mSt cI cJ ad G1 V n el th := hM.keep (fun i _ => ho1 i (by omega))
  have hG10 : G1 0 = aJ cJ 1 o := (ho1 0 (by omega)).trans ho0
  obtain ⟨fs1, hfs1⟩ := hM1.obj
  have hP : va_P D vwCl (pw 488 ad G1) H := hP
  have hD : va_D A (pw 488 ad G1) := hD
  refine lv_aload_n hx hb dL_law_882 rfl (lv_at hl 2 rfl) ?_
  refine lv_aload_n hx hb dL_law_883 rfl (lv_at hl 4 rfl) ?_
  refine lv_iload hx hb dL_law_884 (lv_at hl 0 rfl) ?_
  refine lv_iconst (v := iZ 1) hx hb dL_law_886 rfl ?_
  refine zr_iadd hx hb dL_law_887 ?_
  refine zl_sld hx hb hXs hbl hbA hS (5 * j + 1) (by omega) (by omega) hL25 dL_law_888 ?_
  refine zc_Vi (As := [.int (iZ ((xs (5 * j + 1)).toInt))]) (rest := [.int (iZ (a9))]) (wr := []) ⟨hx, hb, hml, hown, hts⟩ (m_modulo l D cI cJ cE cF cR 488 ad G1 V n el th hM1 (by omega) ((xs (5 * j + 1)).toInt) (iZ_val (xs (5 * j + 1))).2) (cwV 1 hts gL_law_X11_modulo rfl rfl rfl (by decide +kernel) ⟨Nat.le_of_ble_eq_true rfl, Nat.le_of_ble_eq_true rfl⟩) hN hK hP hD hS hA (List.range 488) [] (pw_all _ _ _) rfl (pw_nd _) rfl (fun _ h9 => nomatch h9) (q0 := 480) (ci := 11) rfl rfl (pw_at (by omega) (hfs1)) rfl hl.1 (Nat.le_of_ble_eq_true rfl) dL_law_889 ⟨by show _ ≤ 601024; omega, by show _ ≤ 7293034; omega⟩ (fun r9 w1 H locs hz889 hp hP hD hS => ?_)
  obtain ⟨G2, rfl, ⟨hm, hM2⟩, ho2⟩ := hp
  have heq9 : a9 = r9 := pm_uniq hh hm
  have hC2 : pCs cI cJ cE cF cR 488 ad G2 (V) (n) (wd) (el) := hC1.at0 (fun i _ h9 => ho2 i (Or.inl h9))
  have hG20 : G2 0 = aJ cJ 1 o := (ho2 0 (by omega)).trans hG10
  have hP : va_P D vwCl (pw 488 ad G2) H := hP
  have hD : va_D A (pw 488 ad G2) := hD
  refine zr_icmp_eq hx hb 973 hz879 hz889 dL_law_892 (by decide) (fun h_892 => ?_) (fun h_892 => ?_)
  · refine W.widen (k := cells + 1) (n := slots + 6) (by omega) (by omega) ?_
    exact kk G2 H locs ls ⟨V, n, wd, el, _, o, hC2, hM2, hG20⟩ hP hD hS (lv_sub hl [0, 1, 2, 3, 4] rfl)
  · exfalso; omega

set_option maxHeartbeats 4000000 in
set_option maxRecDepth 100000 in
/-- the law, meter -/
theorem lm_meter {p : Program} {l : Launch} {e : Env} {s : State} {m : MethodId} {below : List Frame} {meth : Method} {c : Code} {H : Heap} {locs : List Loc} {cells slots : Nat} {Q : State → Prop} {ls : Array Slot} {b L : Nat} {xs : Nat → Int32} {D : va_G} {cI cJ cE cF cR : ClassId} {A : Nat → Prop} {ad : Nat → Nat} {G : Nat → va_E} (C : lwC p l s m c b L xs D cI cJ cE cF cR A) (j : Nat) (hj : 5 * j + 5 ≤ L) (hcs : cells + 1 ≤ 601024 ∧ slots + 6 ≤ 7293034) (hW : lwS cI cJ cE cF cR ad G) (hP : va_P D vwCl (pw 488 ad G) H) (hD : va_D A (pw 488 ad G)) (hS : va_S A s.heap H locs) (hl : lv_has ls 7 [(4, .int (iZ (((5 * j : Nat) : Int)))), (3, .ref (ad 0)), (2, .ref (ad 480)), (1, .ref (ad 1)), (0, .ref (b))]) (kk : ∀ (G1 : Nat → va_E) (H1 : Heap) (locs1 : List Loc) (ls1 : Array Slot), lwS cI cJ cE cF cR ad G1 → va_P D vwCl (pw 488 ad G1) H1 → va_D A (pw 488 ad G1) → va_S A s.heap H1 locs1 → lv_has ls1 7 [(4, .int (iZ (((5 * j : Nat) : Int)))), (3, .ref (ad 0)), (2, .ref (ad 480)), (1, .ref (ad 1)), (0, .ref (b))] → W p l e room_1 s m #[Value.ref b] below meth c H1 locs1 (cells + 1) (slots + 6) Q (F0 m 973 ls1 [])) : W p l e room_1 s m #[Value.ref b] below meth c H locs cells slots Q (F0 m 897 ls []) := by
  obtain ⟨hx, hb, hml, hown, hts, hst, hN, hX9, hHC, hK, hA, hXs, hbl, hbA, hL25⟩ := id C
  obtain ⟨V, n, wd, el, th, o, hC9, hM, ho0⟩ := hW
  obtain ⟨hcs1, hcs2⟩ := hcs
  refine lv_aload_n hx hb dL_law_897 rfl (lv_at hl 3 rfl) ?_
  refine zc_Vi (As := []) (rest := []) (wr := []) ⟨hx, hb, hml, hown, hts⟩ (p_meter l D cI cJ cE cF cR 488 ad G V n wd el hC9 (by omega)) (cwV 0 hts gL_law_X10_meter rfl rfl rfl (by decide +kernel) ⟨Nat.le_of_ble_eq_true rfl, Nat.le_of_ble_eq_true rfl⟩) hN hK hP hD hS hA (List.range 488) [] (pw_all _ _ _) rfl (pw_nd _) rfl (fun _ h9 => nomatch h9) (q0 := 1) (ci := 10) rfl rfl (pw_at (by omega) (hC9.1)) rfl hl.1 (Nat.le_of_ble_eq_true rfl) dL_law_898 ⟨by show _ ≤ 601024; omega, by show _ ≤ 7293034; omega⟩ (fun a9 w1 H locs hz898 hp hP hD hS => ?_)
  obtain ⟨G1, rfl, hh, ho1⟩ := hp
  have hC1 : pCs cI cJ cE cF cR 488 ad G1 (V) (n) (wd) (el) := hC9.at0 (fun i _ _ => ho1 i)
  have hM1 : mSt cI cJ ad G1 V n el th := hM.keep (fun i _ => ho1 i)
  have hG10 : G1 0 = aJ cJ 1 o := (ho1 0).trans ho0
  obtain ⟨fs1, hfs1⟩ := hM1.obj
  have hP : va_P D vwCl (pw 488 ad G1) H := hP
  have hD : va_D A (pw 488 ad G1) := hD
  refine lv_aload_n hx hb dL_law_901 rfl (lv_at hl 2 rfl) ?_
  refine zc_Vi (As := []) (rest := [.int (iZ (a9))]) (wr := []) ⟨hx, hb, hml, hown, hts⟩ (m_meter l D cI cJ cE cF cR 488 ad G1 V n el th hM1 (by omega)  ) (cwV 0 hts gL_law_X11_meter rfl rfl rfl (by decide +kernel) ⟨Nat.le_of_ble_eq_true rfl, Nat.le_of_ble_eq_true rfl⟩) hN hK hP hD hS hA (List.range 488) [] (pw_all _ _ _) rfl (pw_nd _) rfl (fun _ h9 => nomatch h9) (q0 := 480) (ci := 11) rfl rfl (pw_at (by omega) (hfs1)) rfl hl.1 (Nat.le_of_ble_eq_true rfl) dL_law_902 ⟨by show _ ≤ 601024; omega, by show _ ≤ 7293034; omega⟩ (fun r9 w1 H locs hz902 hp hP hD hS => ?_)
  obtain ⟨G2, rfl, ⟨hm, hM2⟩, ho2⟩ := hp
  have heq9 : a9 = r9 := by rw [hh, hm]
  have hC2 : pCs cI cJ cE cF cR 488 ad G2 (V) (n) (wd) (el) := hC1.at0 (fun i _ h9 => ho2 i (Or.inl h9))
  have hG20 : G2 0 = aJ cJ 1 o := (ho2 0 (by omega)).trans hG10
  have hP : va_P D vwCl (pw 488 ad G2) H := hP
  have hD : va_D A (pw 488 ad G2) := hD
  refine zr_icmp_eq hx hb 973 hz898 hz902 dL_law_905 (by decide) (fun h_905 => ?_) (fun h_905 => ?_)
  · refine W.widen (k := cells + 1) (n := slots + 6) (by omega) (by omega) ?_
    exact kk G2 H locs ls ⟨V, n, wd, el, _, o, hC2, hM2, hG20⟩ hP hD hS (lv_sub hl [0, 1, 2, 3, 4] rfl)
  · exfalso; omega

set_option maxHeartbeats 4000000 in
set_option maxRecDepth 100000 in
/-- the law, isRight -/
theorem lm_isRight {p : Program} {l : Launch} {e : Env} {s : State} {m : MethodId} {below : List Frame} {meth : Method} {c : Code} {H : Heap} {locs : List Loc} {cells slots : Nat} {Q : State → Prop} {ls : Array Slot} {b L : Nat} {xs : Nat → Int32} {D : va_G} {cI cJ cE cF cR : ClassId} {A : Nat → Prop} {ad : Nat → Nat} {G : Nat → va_E} (C : lwC p l s m c b L xs D cI cJ cE cF cR A) (j : Nat) (hj : 5 * j + 5 ≤ L) (hcs : cells + 1 ≤ 601024 ∧ slots + 6 ≤ 7293034) (hW : lwS cI cJ cE cF cR ad G) (hP : va_P D vwCl (pw 488 ad G) H) (hD : va_D A (pw 488 ad G)) (hS : va_S A s.heap H locs) (hl : lv_has ls 7 [(4, .int (iZ (((5 * j : Nat) : Int)))), (3, .ref (ad 0)), (2, .ref (ad 480)), (1, .ref (ad 1)), (0, .ref (b))]) (kk : ∀ (G1 : Nat → va_E) (H1 : Heap) (locs1 : List Loc) (ls1 : Array Slot), lwS cI cJ cE cF cR ad G1 → va_P D vwCl (pw 488 ad G1) H1 → va_D A (pw 488 ad G1) → va_S A s.heap H1 locs1 → lv_has ls1 7 [(4, .int (iZ (((5 * j : Nat) : Int)))), (3, .ref (ad 0)), (2, .ref (ad 480)), (1, .ref (ad 1)), (0, .ref (b))] → W p l e room_1 s m #[Value.ref b] below meth c H1 locs1 (cells + 1) (slots + 6) Q (F0 m 973 ls1 [])) : W p l e room_1 s m #[Value.ref b] below meth c H locs cells slots Q (F0 m 910 ls []) := by
  obtain ⟨hx, hb, hml, hown, hts, hst, hN, hX9, hHC, hK, hA, hXs, hbl, hbA, hL25⟩ := id C
  obtain ⟨V, n, wd, el, th, o, hC9, hM, ho0⟩ := hW
  obtain ⟨hcs1, hcs2⟩ := hcs
  refine lv_aload_n hx hb dL_law_910 rfl (lv_at hl 3 rfl) ?_
  refine lv_aload_n hx hb dL_law_911 rfl (lv_at hl 4 rfl) ?_
  refine lv_iload hx hb dL_law_912 (lv_at hl 0 rfl) ?_
  refine lv_iconst (v := iZ 1) hx hb dL_law_914 rfl ?_
  refine zr_iadd hx hb dL_law_915 ?_
  refine zl_sld hx hb hXs hbl hbA hS (5 * j + 1) (by omega) (by omega) hL25 dL_law_916 ?_
  refine lv_aload_n hx hb dL_law_917 rfl (lv_at hl 1 rfl) ?_
  refine zc_H (As := [.ref (ad 1), .int (iZ ((xs (5 * j + 1)).toInt)), .ref (ad 0)]) (rest := []) ⟨hx, hb, hml, hown, hts⟩ (h_isRight l D cI cJ cE cF cR hst 488 ad G ((xs (5 * j + 1)).toInt) V n wd el hC9 (by omega) (iZ_val (xs (5 * j + 1))).2 o ho0) (vx_cwSW 3 hts gL_law_L_isRight rfl rfl rfl (by decide +kernel) ⟨Nat.le_of_ble_eq_true rfl, Nat.le_of_ble_eq_true rfl⟩) hN hX9 hHC hK hP hD hS hA rfl hl.1 (Nat.le_of_ble_eq_true rfl) dL_law_918 ⟨by show _ ≤ 601024; omega, by show _ ≤ 7293034; omega⟩ (fun k9 w1 H locs hk9 hp hP hD hS => ?_)
  obtain ⟨G1, rfl, hh, ho1⟩ := hp
  have hM1 : mSt cI cJ ad G1 V n el th := hM.keep ho1
  obtain ⟨fs1, hfs1⟩ := hM1.obj
  have hP : va_P D vwCl (pw 488 ad G1) H := hP
  have hD : va_D A (pw 488 ad G1) := hD
  refine lv_istore (lv' := [(5, .int (iZ (k9))), (4, .int (iZ (((5 * j : Nat) : Int)))), (3, .ref (ad 0)), (2, .ref (ad 480)), (1, .ref (ad 1)), (0, .ref (b))]) hx hb dL_law_921 hl (by decide) rfl (fun ls hl => ?_)
  refine lv_aload_n hx hb dL_law_923 rfl (lv_at hl 3 rfl) ?_
  refine lv_aload_n hx hb dL_law_924 rfl (lv_at hl 5 rfl) ?_
  refine lv_iload hx hb dL_law_925 (lv_at hl 1 rfl) ?_
  refine lv_iconst (v := iZ 1) hx hb dL_law_927 rfl ?_
  refine zr_iadd hx hb dL_law_928 ?_
  refine zl_sld hx hb hXs hbl hbA hS (5 * j + 1) (by omega) (by omega) hL25 dL_law_929 ?_
  refine zc_Vi (As := [.int (iZ ((xs (5 * j + 1)).toInt))]) (rest := []) (wr := []) ⟨hx, hb, hml, hown, hts⟩ (m_isRight l D cI cJ cE cF cR 488 ad G1 V n el th hM1 (by omega) ((xs (5 * j + 1)).toInt) (iZ_val (xs (5 * j + 1))).2) (cwV 1 hts gL_law_X11_isRight rfl rfl rfl (by decide +kernel) ⟨Nat.le_of_ble_eq_true rfl, Nat.le_of_ble_eq_true rfl⟩) hN hK hP hD hS hA (List.range 488) [] (pw_all _ _ _) rfl (pw_nd _) rfl (fun _ h9 => nomatch h9) (q0 := 480) (ci := 11) rfl rfl (pw_at (by omega) (hfs1)) rfl hl.1 (Nat.le_of_ble_eq_true rfl) dL_law_930 ⟨by show _ ≤ 601024; omega, by show _ ≤ 7293034; omega⟩ (fun r9 w1 H locs hz930 hp hP hD hS => ?_)
  obtain ⟨G2, rfl, hm, ho2⟩ := hp
  have hr01 := lb_isRight hh hm
  obtain ⟨V1, n1, wd1, el1, tc, o1, hC2, hM2, hG20, htk, hob, hk012⟩ := la_isRight hh hm ho2
  obtain ⟨fs2, hfs2⟩ := hM2.obj
  have hP : va_P D vwCl (pw 488 ad G2) H := hP
  have hD : va_D A (pw 488 ad G2) := hD
  refine lv_istore (lv' := [(6, .int (iZ (r9))), (5, .int (iZ (k9))), (4, .int (iZ (((5 * j : Nat) : Int)))), (3, .ref (ad 0)), (2, .ref (ad 480)), (1, .ref (ad 1)), (0, .ref (b))]) hx hb dL_law_933 hl (by decide) rfl (fun ls hl => ?_)
  refine lv_aload_n hx hb dL_law_935 rfl (lv_at hl 4 rfl) ?_
  refine zc_Vi (As := []) (rest := []) (wr := []) ⟨hx, hb, hml, hown, hts⟩ (m_thrown l D cI cJ cE cF cR 488 ad G2 V1 n1 el1 tc hM2 (by omega) ⟨by omega, by omega⟩) (cwV 0 hts gL_law_X11_thrown rfl rfl rfl (by decide +kernel) ⟨Nat.le_of_ble_eq_true rfl, Nat.le_of_ble_eq_true rfl⟩) hN hK hP hD hS hA (List.range 488) [] (pw_all _ _ _) rfl (pw_nd _) rfl (fun _ h9 => nomatch h9) (q0 := 480) (ci := 11) rfl rfl (pw_at (by omega) (hfs2)) rfl hl.1 (Nat.le_of_ble_eq_true rfl) dL_law_936 ⟨by show _ ≤ 601024; omega, by show _ ≤ 7293034; omega⟩ (fun t9 w1 H locs hz936 hp hP hD hS => ?_)
  obtain ⟨G3, rfl, ⟨hth, hM3⟩, ho3⟩ := hp
  have hG30 : G3 0 = aJ cJ 1 o1 := (ho3 0 (by omega)).trans hG20
  have hC3 : pCs cI cJ cE cF cR 488 ad G3 (V1) (n1) (wd1) (el1) := hC2.at0 (fun i _ h9 => ho3 i (Or.inl h9))
  have hP : va_P D vwCl (pw 488 ad G3) H := hP
  have hD : va_D A (pw 488 ad G3) := hD
  refine lv_iload hx hb dL_law_939 (lv_at hl 1 rfl) ?_
  refine zr_icmp_eq hx hb 946 ⟨by omega, by omega⟩ ⟨by omega, by omega⟩ dL_law_941 (by decide) (fun h_941 => ?_) (fun h_941 => ?_)
  · refine lv_iload hx hb dL_law_946 (lv_at hl 1 rfl) ?_
    refine zr_if_ne hx hb 970 ⟨by omega, by omega⟩ dL_law_948 (by decide) (fun h_948 => ?_) (fun h_948 => ?_)
    · refine lv_goto (tgt := 973) hx hb dL_law_970 (by decide) ?_
      refine W.widen (k := cells + 1) (n := slots + 6) (by omega) (by omega) ?_
      exact kk G3 H locs ls ⟨V1, n1, wd1, el1, tc, o1, hC3, hM3, hG30⟩ hP hD hS (lv_sub hl [2, 3, 4, 5, 6] rfl)
    · refine lv_aload_n hx hb dL_law_951 rfl (lv_at hl 3 rfl) ?_
      refine lv_iconst (v := iZ 0) hx hb dL_law_952 rfl ?_
      have hor : o1 0 = r9 := hob (by omega)
      have hr1 := hz930.1
      have hr2 := hz930.2
      have hr3 := hr01 (by omega)
      refine zr_lald hx hb hK hP (0) 1 (pw_at (by omega) (hG30)) rfl (0) (by omega) (by omega) (by omega) dL_law_953 ?_
      refine lv_iload hx hb dL_law_954 (lv_at hl 0 rfl) ?_
      refine zr_if_eq hx hb 963 hz930 dL_law_956 (by decide) (fun h_956 => ?_) (fun h_956 => ?_)
      · refine lv_lconst (v := lZ 0) hx hb dL_law_963 rfl ?_
        refine zr_lcmp_eq hx hb 970 ⟨by omega, by omega⟩ ⟨by omega, by omega⟩ dL_law_964 dL_law_965 (by decide) (fun h_964 => ?_) (fun h_964 => ?_)
        · refine lv_goto (tgt := 973) hx hb dL_law_970 (by decide) ?_
          refine W.widen (k := cells + 1) (n := slots + 6) (by omega) (by omega) ?_
          exact kk G3 H locs ls ⟨V1, n1, wd1, el1, tc, o1, hC3, hM3, hG30⟩ hP hD hS (lv_sub hl [2, 3, 4, 5, 6] rfl)
        · exfalso; omega
      · refine lv_lconst (v := lZ 1) hx hb dL_law_959 rfl ?_
        refine lv_goto (tgt := 964) hx hb dL_law_960 (by decide) ?_
        refine zr_lcmp_eq hx hb 970 ⟨by omega, by omega⟩ ⟨by omega, by omega⟩ dL_law_964 dL_law_965 (by decide) (fun h_964 => ?_) (fun h_964 => ?_)
        · refine lv_goto (tgt := 973) hx hb dL_law_970 (by decide) ?_
          refine W.widen (k := cells + 1) (n := slots + 6) (by omega) (by omega) ?_
          exact kk G3 H locs ls ⟨V1, n1, wd1, el1, tc, o1, hC3, hM3, hG30⟩ hP hD hS (lv_sub hl [2, 3, 4, 5, 6] rfl)
        · exfalso; omega
  · exfalso; omega
