theorem bg_add_step {g d e : Nat → Int} {i n k : Nat} {c : Int} (h : bg_val g i + c * bg_p i = bg_val (bg_x d n) i + bg_val (bg_x e k) i) (hgi : g i = d i) : bg_val (zu g i ((c + (bg_at g n (i : Int) + bg_at e k (i : Int))) % 2147483648)) (i + 1) + ((c + (bg_at g n (i : Int) + bg_at e k (i : Int))) / 2147483648) * bg_p (i + 1) = bg_val (bg_x d n) (i + 1) + bg_val (bg_x e k) (i + 1) := by
  rw [bg_step h, bg_at_x, bg_at_x, bg_vs, bg_vs, Int.add_mul]
  have : bg_x g n i = bg_x d n i := by unfold bg_x; rw [hgi]
  rw [this]
  omega
theorem bg_at_dg {g : Nat → Int} {n : Nat} (h : bg_dg g n) (i : Nat) : 0 ≤ bg_at g n (i : Int) ∧ bg_at g n (i : Int) < 2147483648 := by
  rw [bg_at_x]; exact bg_x_dg h (i + 1) i (Nat.lt_succ_self i)
theorem bg_add_end {g d e : Nat → Int} {n k M r1 r2 room : Nat} {c v1 v2 : Int} (hroom : 1 + M ≤ room) (hg : bg_dg g (1 + M)) (hc : 0 ≤ c ∧ c ≤ 1) (h1 : bg_ok d n r1 v1) (h2 : bg_ok e k r2 v2) (hn : n ≤ M) (hk : k ≤ M) (h : bg_val g (1 + M) + c * bg_p (1 + M) = bg_val (bg_x d n) (1 + M) + bg_val (bg_x e k) (1 + M)) : bg_ok g (bg_trim g (1 + M)) room (v1 + v2) := by
  rw [bg_x_val d n _ (by omega), bg_x_val e k _ (by omega), h1.2.2.2, h2.2.2.2] at h
  have a1 := bg_ok_lt h1
  have a2 := bg_ok_lt h2
  have b1 := bg_p_le hn
  have b2 := bg_p_le hk
  have b3 := bg_p_pos M
  have b4 : bg_p (1 + M) = 2147483648 * bg_p M := by rw [Nat.add_comm]; exact bg_ps M
  have b5 := bg_val_nn hg
  have hc0 : c = 0 := by
    rcases (show c = 0 ∨ c = 1 by omega) with q | q
    · exact q
    · subst q; rw [Int.one_mul] at h; omega
  subst hc0
  rw [Int.zero_mul, Int.add_zero] at h
  have := bg_ok_trim hroom hg
  rw [h] at this
  exact this
theorem bg_sub_step {g d e : Nat → Int} {i k : Nat} {c : Int} (h : bg_val g i + c * bg_p i = bg_val d i - bg_val (bg_x e k) i) (hgi : g i = d i) : bg_val (zu g i ((c + (g i - bg_at e k (i : Int))) % 2147483648)) (i + 1) + ((c + (g i - bg_at e k (i : Int))) / 2147483648) * bg_p (i + 1) = bg_val d (i + 1) - bg_val (bg_x e k) (i + 1) := by
  rw [bg_step h, bg_at_x, bg_vs, bg_vs, Int.sub_mul, hgi]
  omega
theorem bg_sub_end {g d e : Nat → Int} {n k r1 r2 room : Nat} {c v1 v2 : Int} (hroom : n ≤ room) (hg : bg_dg g n) (hc : -1 ≤ c ∧ c ≤ 0) (h1 : bg_ok d n r1 v1) (h2 : bg_ok e k r2 v2) (hle : v2 ≤ v1) (h : bg_val g n + c * bg_p n = bg_val d n - bg_val (bg_x e k) n) : bg_ok g (bg_trim g n) room (v1 - v2) := by
  have a1 := bg_ok_lt h1
  have a0 := bg_ok_nn h2
  have hk : k ≤ n := bg_ok_cnt h2 (by omega)
  rw [bg_x_val e k _ hk, h1.2.2.2, h2.2.2.2] at h
  have b5 := bg_val_nn hg
  have b6 := bg_val_lt hg
  have hc0 : c = 0 := by
    rcases (show c = 0 ∨ c = -1 by omega) with q | q
    · exact q
    · subst q; rw [Int.neg_mul, Int.one_mul] at h; omega
  subst hc0
  rw [Int.zero_mul, Int.add_zero] at h
  have := bg_ok_trim hroom hg
  rw [h] at this
  exact this
set_option maxHeartbeats 4000000 in
set_option maxRecDepth 100000 in
/-- Whole.add -/
theorem c_add (l : Launch) (D : va_G) (cI cJ cE cF cR : ClassId) (a w b v room room2 n k M : Nat) (d e : Nat → Int) (v1 v2 : Int) (h1 : bg_ok d n room v1) (h2 : bg_ok e k room2 v2) (hroom : room < 2147483648) (hroom2 : room2 < 2147483648) (hM1 : n ≤ M) (hM2 : k ≤ M) (hM3 : M = n ∨ M = k) (hfit : 1 + M ≤ room) : Cv l D (zty cI cJ cE cF cR) yX9_add wsX9_add (zRm 1 22) 0 0 [.ref (a), .ref (b)] [(a, .inr (9, [.ref (w), .int (iZ (((n : Nat) : Int)))])), (w, aI cI (room) (d)), (b, .inr (9, [.ref (v), .int (iZ (((k : Nat) : Int)))])), (v, aI cI (room2) (e))] (fun w1 => ∃ (g : Nat → Int) (cnt : Nat), w1 = [(a, .inr (9, [.ref (w), .int (iZ (((cnt : Nat) : Int)))])), (w, aI cI (room) (g)), (b, .inr (9, [.ref (v), .int (iZ (((k : Nat) : Int)))])), (v, aI cI (room2) (e))] ∧ bg_ok g cnt room (v1 + v2)) := by
  unfold Cv
  refine zs (Qc := zQv D _ _) (cc := cX9_add) (maxL := 6) (ret := none) (by decide) rfl (Nat.le_of_ble_eq_true rfl) ?_
  intro zp ze s zm below meth zc ls A args Q hQ hx hb hr hts hown hlk hml hnm hN hA hK hP hD hS hl
  have q_f_RX9_9_Whole_words_I := hts (.fieldLink RX9 9 "LimbSolver$Whole" "words" "[I") (by decide +kernel)
  have hin9 : ∀ w ∈ wsX90, w ∈ wsX9_add := by decide +kernel
  have q_constantLong_RX9_19_2147483647 := hts (.constantLong RX9 19 (2147483647)) (by decide +kernel)
  have q_f_RX9_15_Whole_count_I := hts (.fieldLink RX9 15 "LimbSolver$Whole" "count" "I") (by decide +kernel)
  have hl : lv_has ls 6 [(0, .ref (a)), (1, .ref (b))] := hl
  have loop : ∀ (t : Nat) (i : Nat) (c0 : Int) (g : Nat → Int) (H : Heap) (locs : List Loc) (ls : Array Slot), (i + t = 1 + M) → (bg_dg g n) → (bg_dg g i) → (∀ j : Nat, i ≤ j → g j = d j) → (0 ≤ c0 ∧ c0 ≤ 1) → (bg_val g i + c0 * bg_p i = bg_val (bg_x d n) i + bg_val (bg_x e k) i) →  va_P D vwCl [(a, .inr (9, [.ref (w), .int (iZ (((n : Nat) : Int)))])), (w, aI cI (room) (g)), (b, .inr (9, [.ref (v), .int (iZ (((k : Nat) : Int)))])), (v, aI cI (room2) (e))] H → va_D A [(a, .inr (9, [.ref (w), .int (iZ (((n : Nat) : Int)))])), (w, aI cI (room) (g)), (b, .inr (9, [.ref (v), .int (iZ (((k : Nat) : Int)))])), (v, aI cI (room2) (e))] → va_S A s.heap H locs → lv_has ls 6 [(5, .int (iZ (((i : Nat) : Int)))), (3, .long (lZ (c0))), (2, .int (iZ (((1 + M : Nat) : Int)))), (0, .ref (a)), (1, .ref (b))] → W zp l ze (zRm 1 22) s zm args below meth zc H locs 0 0 Q (F0 zm 40 ls []) := by
    intro t
    induction t with
    | zero =>
      intro i c0 g H locs ls hit hgn hgi hge hc hv hP hD hS hl
      obtain rfl : i = 1 + M := by omega
      refine lv_iload hx hb dX9_add_40 (lv_at hl 0 rfl) ?_
      refine lv_iload_n hx hb dX9_add_42 rfl (lv_at hl 2 rfl) ?_
      refine zr_icmp_ge hx hb 88 ⟨by omega, by omega⟩ ⟨by omega, by omega⟩ dX9_add_43 (by decide) (fun h_43 => ?_) (fun h_43 => ?_)
      · refine lv_aload_n hx hb dX9_add_88 rfl (lv_at hl 3 rfl) ?_
        refine lv_iload_n hx hb dX9_add_89 rfl (lv_at hl 2 rfl) ?_
        refine zc_Vv (As := [.int (iZ (((1 + M : Nat) : Int)))]) (rest := []) (wr := [(b, .inr (9, [.ref (v), .int (iZ (((k : Nat) : Int)))])), (v, aI cI (room2) (e))]) ⟨hx, hb, hml, hown, hts⟩ (c_trim l D cI cJ cE cF cR a w room (1 + M) ((n : Nat) : Int) g (by omega) hroom hgi) (cwV 1 hts gX9_add_X9_trim rfl rfl rfl (by decide +kernel) ⟨Nat.le_of_ble_eq_true rfl, Nat.le_of_ble_eq_true rfl⟩) hN hK hP hD hS hA [0, 1] [2, 3] rfl rfl (by decide) (by decide) (by decide) (q0 := 0) (ci := 9) rfl rfl rfl rfl hl.1 (Nat.le_of_ble_eq_true rfl) dX9_add_90 ⟨by decide, by decide⟩ (fun w1 H locs hp hP hD hS => ?_)
        obtain rfl : w1 = _ := hp
        have hP := hP.sub (ws' := [(a, .inr (9, [.ref (w), .int (iZ (((bg_trim g (1 + M) : Nat) : Int)))])), (w, aI cI (room) (g)), (b, .inr (9, [.ref (v), .int (iZ (((k : Nat) : Int)))])), (v, aI cI (room2) (e))]) [2, 3, 0, 1] rfl
        have hD := hD.sub (ws' := [(a, .inr (9, [.ref (w), .int (iZ (((bg_trim g (1 + M) : Nat) : Int)))])), (w, aI cI (room) (g)), (b, .inr (9, [.ref (v), .int (iZ (((k : Nat) : Int)))])), (v, aI cI (room2) (e))]) [2, 3, 0, 1] (by decide) rfl
        exact zr_vret hQ hx hb hr hlk dX9_add_93 hK hP hD hS (by omega) (by omega) (⟨g, bg_trim g (1 + M), rfl, bg_add_end (by omega) hgi hc h1 h2 hM1 hM2 hv⟩)
      · exfalso; omega
    | succ t ih =>
      intro i c0 g H locs ls hit hgn hgi hge hc hv hP hD hS hl
      refine lv_iload hx hb dX9_add_40 (lv_at hl 0 rfl) ?_
      refine lv_iload_n hx hb dX9_add_42 rfl (lv_at hl 2 rfl) ?_
      refine zr_icmp_ge hx hb 88 ⟨by omega, by omega⟩ ⟨by omega, by omega⟩ dX9_add_43 (by decide) (fun h_43 => ?_) (fun h_43 => ?_)
      · exfalso; omega
      · have b0 := bg_at_dg hgn i
        have b1 := bg_at_dg h2.2.1 i
        refine lv_lload_n hx hb dX9_add_46 rfl (lv_at hl 1 rfl) ?_
        refine lv_aload_n hx hb dX9_add_47 rfl (lv_at hl 3 rfl) ?_
        refine lv_iload hx hb dX9_add_48 (lv_at hl 0 rfl) ?_
        refine zc_Vi (As := [.int (iZ (((i : Nat) : Int)))]) (rest := [.long (lZ (c0))]) (wr := [(b, .inr (9, [.ref (v), .int (iZ (((k : Nat) : Int)))])), (v, aI cI (room2) (e))]) ⟨hx, hb, hml, hown, hts⟩ (c_wordAt l D cI cJ cE cF cR a w room n g ((i : Nat) : Int) ⟨by omega, by omega⟩ h1.1 hroom hgn) (cwV 1 hts gX9_add_X9_wordAt rfl rfl rfl (by decide +kernel) ⟨Nat.le_of_ble_eq_true rfl, Nat.le_of_ble_eq_true rfl⟩) hN hK hP hD hS hA [0, 1] [2, 3] rfl rfl (by decide) (by decide) (by decide) (q0 := 0) (ci := 9) rfl rfl rfl rfl hl.1 (Nat.le_of_ble_eq_true rfl) dX9_add_50 ⟨by decide, by decide⟩ (fun z50 w1 H locs hz50 hp hP hD hS => ?_)
        obtain ⟨hw1, hx0⟩ := hp
        subst hw1
        subst hx0
        have hP := hP.sub (ws' := [(a, .inr (9, [.ref (w), .int (iZ (((n : Nat) : Int)))])), (w, aI cI (room) (g)), (b, .inr (9, [.ref (v), .int (iZ (((k : Nat) : Int)))])), (v, aI cI (room2) (e))]) [2, 3, 0, 1] rfl
        have hD := hD.sub (ws' := [(a, .inr (9, [.ref (w), .int (iZ (((n : Nat) : Int)))])), (w, aI cI (room) (g)), (b, .inr (9, [.ref (v), .int (iZ (((k : Nat) : Int)))])), (v, aI cI (room2) (e))]) [2, 3, 0, 1] (by decide) rfl
        refine zr_i2l hx hb ⟨by omega, by omega⟩ dX9_add_53 ?_
        refine lv_aload_n hx hb dX9_add_54 rfl (lv_at hl 4 rfl) ?_
        refine lv_iload hx hb dX9_add_55 (lv_at hl 0 rfl) ?_
        refine zc_Vi (As := [.int (iZ (((i : Nat) : Int)))]) (rest := [.long (lZ (bg_at g n ((i : Nat) : Int))), .long (lZ (c0))]) (wr := [(a, .inr (9, [.ref (w), .int (iZ (((n : Nat) : Int)))])), (w, aI cI (room) (g))]) ⟨hx, hb, hml, hown, hts⟩ (c_wordAt l D cI cJ cE cF cR b v room2 k e ((i : Nat) : Int) ⟨by omega, by omega⟩ h2.1 hroom2 h2.2.1) (cwV 1 hts gX9_add_X9_wordAt rfl rfl rfl (by decide +kernel) ⟨Nat.le_of_ble_eq_true rfl, Nat.le_of_ble_eq_true rfl⟩) hN hK hP hD hS hA [2, 3] [0, 1] rfl rfl (by decide) (by decide) (by decide) (q0 := 0) (ci := 9) rfl rfl rfl rfl hl.1 (Nat.le_of_ble_eq_true rfl) dX9_add_57 ⟨by decide, by decide⟩ (fun z57 w1 H locs hz57 hp hP hD hS => ?_)
        obtain ⟨hw1, hx0⟩ := hp
        subst hw1
        subst hx0
        have hP := hP.sub (ws' := [(a, .inr (9, [.ref (w), .int (iZ (((n : Nat) : Int)))])), (w, aI cI (room) (g)), (b, .inr (9, [.ref (v), .int (iZ (((k : Nat) : Int)))])), (v, aI cI (room2) (e))]) [0, 1, 2, 3] rfl
        have hD := hD.sub (ws' := [(a, .inr (9, [.ref (w), .int (iZ (((n : Nat) : Int)))])), (w, aI cI (room) (g)), (b, .inr (9, [.ref (v), .int (iZ (((k : Nat) : Int)))])), (v, aI cI (room2) (e))]) [0, 1, 2, 3] (by decide) rfl
        refine zr_i2l hx hb ⟨by omega, by omega⟩ dX9_add_60 ?_
        refine zr_ladd hx hb dX9_add_61 ?_
        refine zr_ladd hx hb dX9_add_62 ?_
        refine lv_lstore_n (lv' := [(3, .long (lZ ((c0) + ((bg_at g n ((i : Nat) : Int)) + (bg_at e k ((i : Nat) : Int)))))), (5, .int (iZ (((i : Nat) : Int)))), (2, .int (iZ (((1 + M : Nat) : Int)))), (0, .ref (a)), (1, .ref (b))]) hx hb dX9_add_63 rfl hl (by decide) rfl (fun ls hl => ?_)
        refine lv_aload_n hx hb dX9_add_64 rfl (lv_at hl 3 rfl) ?_
        refine va_get (D := D) (ci := 9) (v := .ref (w)) (C := RX9) (T := TX9) (N := 2) hx hb hts hin9 hown hK hP 0 rfl rfl 0 (by decide) q_f_RX9_9_Whole_words_I (fun _ h9 => h9) rfl dX9_add_65 ?_
        refine lv_iload hx hb dX9_add_68 (lv_at hl 1 rfl) ?_
        refine lv_lload_n hx hb dX9_add_70 rfl (lv_at hl 0 rfl) ?_
        refine zr_ldc2 hx hb 2147483647 (by decide) hown q_constantLong_RX9_19_2147483647 dX9_add_71 ?_
        refine zr_land31 hx hb dX9_add_74 ?_
        refine zr_l2i hx hb dX9_add_75 ?_
        refine zr_iast hx hb hK hP hD hS 1 0 rfl rfl (i) (rfl) (by omega) (by omega) dX9_add_76 (fun H locs hP hD hS => ?_)
        have hP : va_P D vwCl [(a, .inr (9, [.ref (w), .int (iZ (((n : Nat) : Int)))])), (w, aI cI (room) (zu (g) (i) (((c0) + ((bg_at g n ((i : Nat) : Int)) + (bg_at e k ((i : Nat) : Int)))) % 2147483648))), (b, .inr (9, [.ref (v), .int (iZ (((k : Nat) : Int)))])), (v, aI cI (room2) (e))] H := hP
        have hD : va_D A [(a, .inr (9, [.ref (w), .int (iZ (((n : Nat) : Int)))])), (w, aI cI (room) (zu (g) (i) (((c0) + ((bg_at g n ((i : Nat) : Int)) + (bg_at e k ((i : Nat) : Int)))) % 2147483648))), (b, .inr (9, [.ref (v), .int (iZ (((k : Nat) : Int)))])), (v, aI cI (room2) (e))] := hD
        refine lv_lload_n hx hb dX9_add_77 rfl (lv_at hl 0 rfl) ?_
        refine lv_bipush (v := iZ 31) hx hb dX9_add_78 (by decide) ?_
        refine zr_lshr31 hx hb ⟨by omega, by omega⟩ dX9_add_80 ?_
        refine lv_lstore_n (lv' := [(3, .long (lZ (((c0) + ((bg_at g n ((i : Nat) : Int)) + (bg_at e k ((i : Nat) : Int)))) / 2147483648))), (5, .int (iZ (((i : Nat) : Int)))), (2, .int (iZ (((1 + M : Nat) : Int)))), (0, .ref (a)), (1, .ref (b))]) hx hb dX9_add_81 rfl hl (by decide) rfl (fun ls hl => ?_)
        refine lv_iinc (v := iZ (((i + 1 : Nat) : Int))) (lv' := [(5, .int (iZ (((i + 1 : Nat) : Int)))), (3, .long (lZ (((c0) + ((bg_at g n ((i : Nat) : Int)) + (bg_at e k ((i : Nat) : Int)))) / 2147483648))), (2, .int (iZ (((1 + M : Nat) : Int)))), (0, .ref (a)), (1, .ref (b))]) hx hb dX9_add_82 hl (k := 1) rfl (by rw [show ((i + 1 : Nat) : Int) = ((i : Nat) : Int) + 1 by omega]; exact iZ_add _ _) (by decide) rfl (fun ls hl => ?_)
        refine lv_goto (tgt := 40) hx hb dX9_add_85 (by decide) ?_
        exact ih (i + 1) _ _ H locs ls (by omega) (bg_zu_dg hgn (bg_mod _)) (bg_zu_dgs hgi (bg_mod _)) (fun j hj => by rw [bg_zu_hi (by omega)]; exact hge j (by omega)) ⟨by omega, by omega⟩ (bg_add_step hv (hge i (Nat.le_refl i))) hP hD hS (lv_sub hl [0, 1, 2, 3, 4] rfl)
  have jn : ∀  (H : Heap) (locs : List Loc) (ls : Array Slot),  va_P D vwCl [(a, .inr (9, [.ref (w), .int (iZ (((n : Nat) : Int)))])), (w, aI cI (room) (d)), (b, .inr (9, [.ref (v), .int (iZ (((k : Nat) : Int)))])), (v, aI cI (room2) (e))] H → va_D A [(a, .inr (9, [.ref (w), .int (iZ (((n : Nat) : Int)))])), (w, aI cI (room) (d)), (b, .inr (9, [.ref (v), .int (iZ (((k : Nat) : Int)))])), (v, aI cI (room2) (e))] → va_S A s.heap H locs → lv_has ls 6 [(0, .ref (a)), (1, .ref (b))] → W zp l ze (zRm 1 22) s zm args below meth zc H locs 0 0 Q (F0 zm 23 ls [.int (iZ ((M : Nat) : Int)), .int (iZ (1))]) := by
    intro  H locs ls  hP hD hS hl
    refine zr_iadd hx hb dX9_add_23 ?_
    refine zr_eqi (((1 + M : Nat) : Int)) (by omega) ?_
    refine lv_istore_n (lv' := [(2, .int (iZ (((1 + M : Nat) : Int)))), (0, .ref (a)), (1, .ref (b))]) hx hb dX9_add_24 rfl hl (by decide) rfl (fun ls hl => ?_)
    refine lv_iload_n hx hb dX9_add_25 rfl (lv_at hl 0 rfl) ?_
    refine lv_aload_n hx hb dX9_add_26 rfl (lv_at hl 1 rfl) ?_
    refine va_get (D := D) (ci := 9) (v := .ref (w)) (C := RX9) (T := TX9) (N := 2) hx hb hts hin9 hown hK hP 0 rfl rfl 0 (by decide) q_f_RX9_9_Whole_words_I (fun _ h9 => h9) rfl dX9_add_27 ?_
    refine zr_alen hx hb hK hP 1 0 rfl rfl dX9_add_30 ?_
    refine zr_icmp_le hx hb 35 ⟨by omega, by omega⟩ ⟨by omega, by omega⟩ dX9_add_31 (by decide) (fun h_31 => ?_) (fun h_31 => ?_)
    · refine lv_lconst (v := lZ 0) hx hb dX9_add_35 rfl ?_
      refine lv_lstore_n (lv' := [(3, .long (lZ (0))), (2, .int (iZ (((1 + M : Nat) : Int)))), (0, .ref (a)), (1, .ref (b))]) hx hb dX9_add_36 rfl hl (by decide) rfl (fun ls hl => ?_)
      refine lv_iconst (v := iZ 0) hx hb dX9_add_37 rfl ?_
      refine lv_istore (lv' := [(5, .int (iZ (0))), (3, .long (lZ (0))), (2, .int (iZ (((1 + M : Nat) : Int)))), (0, .ref (a)), (1, .ref (b))]) hx hb dX9_add_38 hl (by decide) rfl (fun ls hl => ?_)
      exact loop (1 + M) 0 0 d H locs ls (by omega) h1.2.1 (fun j hj => absurd hj (Nat.not_lt_zero j)) (fun j _ => rfl) ⟨by omega, by omega⟩ (by rw [Int.zero_mul]; rfl) hP hD hS (lv_sub hl [0, 1, 2, 3, 4] rfl)
    · exfalso; omega
  refine lv_iconst (v := iZ 1) hx hb dX9_add_0 rfl ?_
  refine lv_aload_n hx hb dX9_add_1 rfl (lv_at hl 0 rfl) ?_
  refine va_get (D := D) (ci := 9) (v := .int (iZ (((n : Nat) : Int)))) (C := RX9) (T := TX9) (N := 2) hx hb hts hin9 hown hK hP 0 rfl rfl 1 (by decide) q_f_RX9_15_Whole_count_I (fun _ h9 => h9) rfl dX9_add_2 ?_
  refine lv_aload_n hx hb dX9_add_5 rfl (lv_at hl 1 rfl) ?_
  refine va_get (D := D) (ci := 9) (v := .int (iZ (((k : Nat) : Int)))) (C := RX9) (T := TX9) (N := 2) hx hb hts hin9 hown hK hP 2 rfl rfl 1 (by decide) q_f_RX9_15_Whole_count_I (fun _ h9 => h9) rfl dX9_add_6 ?_
  refine zr_icmp_le hx hb 19 ⟨by omega, by omega⟩ ⟨by omega, by omega⟩ dX9_add_9 (by decide) (fun h_9 => ?_) (fun h_9 => ?_)
  · refine lv_aload_n hx hb dX9_add_19 rfl (lv_at hl 1 rfl) ?_
    refine va_get (D := D) (ci := 9) (v := .int (iZ (((k : Nat) : Int)))) (C := RX9) (T := TX9) (N := 2) hx hb hts hin9 hown hK hP 2 rfl rfl 1 (by decide) q_f_RX9_15_Whole_count_I (fun _ h9 => h9) rfl dX9_add_20 ?_
    refine zr_eqi ((M : Nat) : Int) (by omega) ?_
    exact jn s.heap [] ls hP hD hS hl
  · refine lv_aload_n hx hb dX9_add_12 rfl (lv_at hl 0 rfl) ?_
    refine va_get (D := D) (ci := 9) (v := .int (iZ (((n : Nat) : Int)))) (C := RX9) (T := TX9) (N := 2) hx hb hts hin9 hown hK hP 0 rfl rfl 1 (by decide) q_f_RX9_15_Whole_count_I (fun _ h9 => h9) rfl dX9_add_13 ?_
    refine lv_goto (tgt := 23) hx hb dX9_add_16 (by decide) ?_
    refine zr_eqi ((M : Nat) : Int) (by omega) ?_
    exact jn s.heap [] ls hP hD hS hl

set_option maxHeartbeats 4000000 in
set_option maxRecDepth 100000 in
/-- Whole.subtract -/
theorem c_subtract (l : Launch) (D : va_G) (cI cJ cE cF cR : ClassId) (a w b v room room2 n k : Nat) (d e : Nat → Int) (v1 v2 : Int) (h1 : bg_ok d n room v1) (h2 : bg_ok e k room2 v2) (hroom : room < 2147483648) (hroom2 : room2 < 2147483648) (hle : v2 ≤ v1) : Cv l D (zty cI cJ cE cF cR) yX9_subtract wsX9_subtract (zRm 1 22) 0 0 [.ref (a), .ref (b)] [(a, .inr (9, [.ref (w), .int (iZ (((n : Nat) : Int)))])), (w, aI cI (room) (d)), (b, .inr (9, [.ref (v), .int (iZ (((k : Nat) : Int)))])), (v, aI cI (room2) (e))] (fun w1 => ∃ (g : Nat → Int) (cnt : Nat), w1 = [(a, .inr (9, [.ref (w), .int (iZ (((cnt : Nat) : Int)))])), (w, aI cI (room) (g)), (b, .inr (9, [.ref (v), .int (iZ (((k : Nat) : Int)))])), (v, aI cI (room2) (e))] ∧ bg_ok g cnt room (v1 - v2)) := by
  unfold Cv
  refine zs (Qc := zQv D _ _) (cc := cX9_subtract) (maxL := 5) (ret := none) (by decide) rfl (Nat.le_of_ble_eq_true rfl) ?_
  intro zp ze s zm below meth zc ls A args Q hQ hx hb hr hts hown hlk hml hnm hN hA hK hP hD hS hl
  have q_f_RX9_15_Whole_count_I := hts (.fieldLink RX9 15 "LimbSolver$Whole" "count" "I") (by decide +kernel)
  have hin9 : ∀ w ∈ wsX90, w ∈ wsX9_subtract := by decide +kernel
  have q_f_RX9_9_Whole_words_I := hts (.fieldLink RX9 9 "LimbSolver$Whole" "words" "[I") (by decide +kernel)
  have q_constantLong_RX9_19_2147483647 := hts (.constantLong RX9 19 (2147483647)) (by decide +kernel)
  have hl : lv_has ls 5 [(0, .ref (a)), (1, .ref (b))] := hl
  have hnr := h1.1
  have loop : ∀ (t : Nat) (i : Nat) (c0 : Int) (g : Nat → Int) (H : Heap) (locs : List Loc) (ls : Array Slot), (i + t = n) → (bg_dg g n) → (∀ j : Nat, i ≤ j → g j = d j) → (-1 ≤ c0 ∧ c0 ≤ 0) → (bg_val g i + c0 * bg_p i = bg_val d i - bg_val (bg_x e k) i) →  va_P D vwCl [(a, .inr (9, [.ref (w), .int (iZ (((n : Nat) : Int)))])), (w, aI cI (room) (g)), (b, .inr (9, [.ref (v), .int (iZ (((k : Nat) : Int)))])), (v, aI cI (room2) (e))] H → va_D A [(a, .inr (9, [.ref (w), .int (iZ (((n : Nat) : Int)))])), (w, aI cI (room) (g)), (b, .inr (9, [.ref (v), .int (iZ (((k : Nat) : Int)))])), (v, aI cI (room2) (e))] → va_S A s.heap H locs → lv_has ls 5 [(4, .int (iZ (((i : Nat) : Int)))), (2, .long (lZ (c0))), (0, .ref (a)), (1, .ref (b))] → W zp l ze (zRm 1 22) s zm args below meth zc H locs 0 0 Q (F0 zm 5 ls []) := by
    intro t
    induction t with
    | zero =>
      intro i c0 g H locs ls hit hgn hge hc hv hP hD hS hl
      have hin : i = n := by omega
      refine lv_iload hx hb dX9_subtract_5 (lv_at hl 0 rfl) ?_
      refine lv_aload_n hx hb dX9_subtract_7 rfl (lv_at hl 2 rfl) ?_
      refine va_get (D := D) (ci := 9) (v := .int (iZ (((n : Nat) : Int)))) (C := RX9) (T := TX9) (N := 2) hx hb hts hin9 hown hK hP 0 rfl rfl 1 (by decide) q_f_RX9_15_Whole_count_I (fun _ h9 => h9) rfl dX9_subtract_8 ?_
      refine zr_icmp_ge hx hb 57 ⟨by omega, by omega⟩ ⟨by omega, by omega⟩ dX9_subtract_11 (by decide) (fun h_11 => ?_) (fun h_11 => ?_)
      · refine lv_aload_n hx hb dX9_subtract_57 rfl (lv_at hl 2 rfl) ?_
        refine lv_aload_n hx hb dX9_subtract_58 rfl (lv_at hl 2 rfl) ?_
        refine va_get (D := D) (ci := 9) (v := .int (iZ (((n : Nat) : Int)))) (C := RX9) (T := TX9) (N := 2) hx hb hts hin9 hown hK hP 0 rfl rfl 1 (by decide) q_f_RX9_15_Whole_count_I (fun _ h9 => h9) rfl dX9_subtract_59 ?_
        refine zc_Vv (As := [.int (iZ (((n : Nat) : Int)))]) (rest := []) (wr := [(b, .inr (9, [.ref (v), .int (iZ (((k : Nat) : Int)))])), (v, aI cI (room2) (e))]) ⟨hx, hb, hml, hown, hts⟩ (c_trim l D cI cJ cE cF cR a w room n ((n : Nat) : Int) g h1.1 hroom hgn) (cwV 1 hts gX9_subtract_X9_trim rfl rfl rfl (by decide +kernel) ⟨Nat.le_of_ble_eq_true rfl, Nat.le_of_ble_eq_true rfl⟩) hN hK hP hD hS hA [0, 1] [2, 3] rfl rfl (by decide) (by decide) (by decide) (q0 := 0) (ci := 9) rfl rfl rfl rfl hl.1 (Nat.le_of_ble_eq_true rfl) dX9_subtract_62 ⟨by decide, by decide⟩ (fun w1 H locs hp hP hD hS => ?_)
        obtain rfl : w1 = _ := hp
        have hP := hP.sub (ws' := [(a, .inr (9, [.ref (w), .int (iZ (((bg_trim g n : Nat) : Int)))])), (w, aI cI (room) (g)), (b, .inr (9, [.ref (v), .int (iZ (((k : Nat) : Int)))])), (v, aI cI (room2) (e))]) [2, 3, 0, 1] rfl
        have hD := hD.sub (ws' := [(a, .inr (9, [.ref (w), .int (iZ (((bg_trim g n : Nat) : Int)))])), (w, aI cI (room) (g)), (b, .inr (9, [.ref (v), .int (iZ (((k : Nat) : Int)))])), (v, aI cI (room2) (e))]) [2, 3, 0, 1] (by decide) rfl
        exact zr_vret hQ hx hb hr hlk dX9_subtract_65 hK hP hD hS (by omega) (by omega) (⟨g, bg_trim g n, rfl, bg_sub_end h1.1 hgn hc h1 h2 hle (hin ▸ hv)⟩)
      · exfalso; omega
    | succ t ih =>
      intro i c0 g H locs ls hit hgn hge hc hv hP hD hS hl
      refine lv_iload hx hb dX9_subtract_5 (lv_at hl 0 rfl) ?_
      refine lv_aload_n hx hb dX9_subtract_7 rfl (lv_at hl 2 rfl) ?_
      refine va_get (D := D) (ci := 9) (v := .int (iZ (((n : Nat) : Int)))) (C := RX9) (T := TX9) (N := 2) hx hb hts hin9 hown hK hP 0 rfl rfl 1 (by decide) q_f_RX9_15_Whole_count_I (fun _ h9 => h9) rfl dX9_subtract_8 ?_
      refine zr_icmp_ge hx hb 57 ⟨by omega, by omega⟩ ⟨by omega, by omega⟩ dX9_subtract_11 (by decide) (fun h_11 => ?_) (fun h_11 => ?_)
      · exfalso; omega
      · have b0 := hgn i (by omega)
        have b1 := bg_at_dg h2.2.1 i
        have hroom1 := h1.1
        refine lv_lload_n hx hb dX9_subtract_14 rfl (lv_at hl 1 rfl) ?_
        refine lv_aload_n hx hb dX9_subtract_15 rfl (lv_at hl 2 rfl) ?_
        refine va_get (D := D) (ci := 9) (v := .ref (w)) (C := RX9) (T := TX9) (N := 2) hx hb hts hin9 hown hK hP 0 rfl rfl 0 (by decide) q_f_RX9_9_Whole_words_I (fun _ h9 => h9) rfl dX9_subtract_16 ?_
        refine lv_iload hx hb dX9_subtract_19 (lv_at hl 0 rfl) ?_
        refine zr_iald hx hb hK hP 1 0 rfl rfl (i) (rfl) (by omega) (by omega) dX9_subtract_21 ?_
        refine zr_i2l hx hb ⟨by omega, by omega⟩ dX9_subtract_22 ?_
        refine lv_aload_n hx hb dX9_subtract_23 rfl (lv_at hl 3 rfl) ?_
        refine lv_iload hx hb dX9_subtract_24 (lv_at hl 0 rfl) ?_
        refine zc_Vi (As := [.int (iZ (((i : Nat) : Int)))]) (rest := [.long (lZ ((g) (i))), .long (lZ (c0))]) (wr := [(a, .inr (9, [.ref (w), .int (iZ (((n : Nat) : Int)))])), (w, aI cI (room) (g))]) ⟨hx, hb, hml, hown, hts⟩ (c_wordAt l D cI cJ cE cF cR b v room2 k e ((i : Nat) : Int) ⟨by omega, by omega⟩ h2.1 hroom2 h2.2.1) (cwV 1 hts gX9_subtract_X9_wordAt rfl rfl rfl (by decide +kernel) ⟨Nat.le_of_ble_eq_true rfl, Nat.le_of_ble_eq_true rfl⟩) hN hK hP hD hS hA [2, 3] [0, 1] rfl rfl (by decide) (by decide) (by decide) (q0 := 0) (ci := 9) rfl rfl rfl rfl hl.1 (Nat.le_of_ble_eq_true rfl) dX9_subtract_26 ⟨by decide, by decide⟩ (fun z26 w1 H locs hz26 hp hP hD hS => ?_)
        obtain ⟨hw1, hx0⟩ := hp
        subst hw1
        subst hx0
        have hP := hP.sub (ws' := [(a, .inr (9, [.ref (w), .int (iZ (((n : Nat) : Int)))])), (w, aI cI (room) (g)), (b, .inr (9, [.ref (v), .int (iZ (((k : Nat) : Int)))])), (v, aI cI (room2) (e))]) [0, 1, 2, 3] rfl
        have hD := hD.sub (ws' := [(a, .inr (9, [.ref (w), .int (iZ (((n : Nat) : Int)))])), (w, aI cI (room) (g)), (b, .inr (9, [.ref (v), .int (iZ (((k : Nat) : Int)))])), (v, aI cI (room2) (e))]) [0, 1, 2, 3] (by decide) rfl
        refine zr_i2l hx hb ⟨by omega, by omega⟩ dX9_subtract_29 ?_
        refine zr_lsub hx hb dX9_subtract_30 ?_
        refine zr_ladd hx hb dX9_subtract_31 ?_
        refine lv_lstore_n (lv' := [(2, .long (lZ ((c0) + (((g) (i)) - (bg_at e k ((i : Nat) : Int)))))), (4, .int (iZ (((i : Nat) : Int)))), (0, .ref (a)), (1, .ref (b))]) hx hb dX9_subtract_32 rfl hl (by decide) rfl (fun ls hl => ?_)
        refine lv_aload_n hx hb dX9_subtract_33 rfl (lv_at hl 2 rfl) ?_
        refine va_get (D := D) (ci := 9) (v := .ref (w)) (C := RX9) (T := TX9) (N := 2) hx hb hts hin9 hown hK hP 0 rfl rfl 0 (by decide) q_f_RX9_9_Whole_words_I (fun _ h9 => h9) rfl dX9_subtract_34 ?_
        refine lv_iload hx hb dX9_subtract_37 (lv_at hl 1 rfl) ?_
        refine lv_lload_n hx hb dX9_subtract_39 rfl (lv_at hl 0 rfl) ?_
        refine zr_ldc2 hx hb 2147483647 (by decide) hown q_constantLong_RX9_19_2147483647 dX9_subtract_40 ?_
        refine zr_land31 hx hb dX9_subtract_43 ?_
        refine zr_l2i hx hb dX9_subtract_44 ?_
        refine zr_iast hx hb hK hP hD hS 1 0 rfl rfl (i) (rfl) (by omega) (by omega) dX9_subtract_45 (fun H locs hP hD hS => ?_)
        have hP : va_P D vwCl [(a, .inr (9, [.ref (w), .int (iZ (((n : Nat) : Int)))])), (w, aI cI (room) (zu (g) (i) (((c0) + (((g) (i)) - (bg_at e k ((i : Nat) : Int)))) % 2147483648))), (b, .inr (9, [.ref (v), .int (iZ (((k : Nat) : Int)))])), (v, aI cI (room2) (e))] H := hP
        have hD : va_D A [(a, .inr (9, [.ref (w), .int (iZ (((n : Nat) : Int)))])), (w, aI cI (room) (zu (g) (i) (((c0) + (((g) (i)) - (bg_at e k ((i : Nat) : Int)))) % 2147483648))), (b, .inr (9, [.ref (v), .int (iZ (((k : Nat) : Int)))])), (v, aI cI (room2) (e))] := hD
        refine lv_lload_n hx hb dX9_subtract_46 rfl (lv_at hl 0 rfl) ?_
        refine lv_bipush (v := iZ 31) hx hb dX9_subtract_47 (by decide) ?_
        refine zr_lshr31 hx hb ⟨by omega, by omega⟩ dX9_subtract_49 ?_
        refine lv_lstore_n (lv' := [(2, .long (lZ (((c0) + (((g) (i)) - (bg_at e k ((i : Nat) : Int)))) / 2147483648))), (4, .int (iZ (((i : Nat) : Int)))), (0, .ref (a)), (1, .ref (b))]) hx hb dX9_subtract_50 rfl hl (by decide) rfl (fun ls hl => ?_)
        refine lv_iinc (v := iZ (((i + 1 : Nat) : Int))) (lv' := [(4, .int (iZ (((i + 1 : Nat) : Int)))), (2, .long (lZ (((c0) + (((g) (i)) - (bg_at e k ((i : Nat) : Int)))) / 2147483648))), (0, .ref (a)), (1, .ref (b))]) hx hb dX9_subtract_51 hl (k := 1) rfl (by rw [show ((i + 1 : Nat) : Int) = ((i : Nat) : Int) + 1 by omega]; exact iZ_add _ _) (by decide) rfl (fun ls hl => ?_)
        refine lv_goto (tgt := 5) hx hb dX9_subtract_54 (by decide) ?_
        exact ih (i + 1) _ _ H locs ls (by omega) (bg_zu_dg hgn (bg_mod _)) (fun j hj => by rw [bg_zu_hi (by omega)]; exact hge j (by omega)) ⟨by omega, by omega⟩ (bg_sub_step hv (hge i (Nat.le_refl i))) hP hD hS (lv_sub hl [0, 1, 2, 3] rfl)
  refine lv_lconst (v := lZ 0) hx hb dX9_subtract_0 rfl ?_
  refine lv_lstore_n (lv' := [(2, .long (lZ (0))), (0, .ref (a)), (1, .ref (b))]) hx hb dX9_subtract_1 rfl hl (by decide) rfl (fun ls hl => ?_)
  refine lv_iconst (v := iZ 0) hx hb dX9_subtract_2 rfl ?_
  refine lv_istore (lv' := [(4, .int (iZ (0))), (2, .long (lZ (0))), (0, .ref (a)), (1, .ref (b))]) hx hb dX9_subtract_3 hl (by decide) rfl (fun ls hl => ?_)
  exact loop n 0 0 d s.heap [] ls (by omega) h1.2.1 (fun j _ => rfl) ⟨by omega, by omega⟩ (by rw [Int.zero_mul]; rfl) hP hD hS (lv_sub hl [0, 1, 2, 3] rfl)
