/-! HELPERS OF THE LAW: they call a method that returns or throws, and catch -/
theorem zX.go {A A1 : Nat → Prop} {s U : State} {H : Heap} {locs : List Loc} (h : zX A s) (hU : U.heap = H) (hW : s.WarmedH U.vm) (hS : va_S A s.heap H locs) (hA : ∀ q : Nat, A1 q → A q) : zX A1 U := by
  obtain ⟨h1, h2, h3, h4⟩ := h
  refine ⟨?_, ?_, fun q hq => ?_, fun w hw => ?_⟩
  · rw [hU]
    exact ((h1.kept (fun a b c => hS.2.1 a b c)).narrow hA).moved hW.alike
  · rw [hU]
    exact ((h2.kept (fun a b c => hS.2.1 a b c)).narrow hA).moved hW.alike
  · obtain ⟨sa, hsa⟩ := h3 q hq
    exact ⟨sa, vk_R.warm hW hsa⟩
  · have h5 := h4 w hw
    unfold zXW at hw
    simp only [List.mem_cons, List.not_mem_nil, or_false] at hw
    rcases hw with rfl | rfl | rfl | rfl | rfl | rfl
    · exact va_Nw.warmD hW h5
    · exact va_Nw.warmD hW h5
    · exact va_Nw.warmD hW h5
    · exact va_Nw.warmC hW h5
    · exact va_Nw.warmC hW h5
    · exact va_Nw.warmC hW h5
theorem zX.same {A : Nat → Prop} {s U : State} (h : zX A s) (hv : U.vm = s.vm) (hh : U.heap = s.heap) : zX A U := by
  obtain ⟨h1, h2, h3, h4⟩ := h
  have hal : s.vm.Alike U.vm := by rw [hv]; exact Vm.Alike.refl _
  refine ⟨?_, ?_, fun q hq => ?_, fun w hw => va_Nw.same (zXW_t w hw) hv.symm (h4 w hw)⟩
  · rw [hh]; exact h1.moved hal
  · rw [hh]; exact h2.moved hal
  · obtain ⟨sa, hsa⟩ := h3 q hq
    exact ⟨sa, vk_R.same hv hsa⟩
theorem zPrX.blind {D : va_G} {tys : zTys} {as : List Value} {w0 : va_W} {sz : Nat} : FrameBlind (zPrX D tys as w0 sz) := fun a U g mk q => by
  obtain ⟨q0, q1, qP, qK, qD, qN, qX⟩ := q
  exact ⟨q0, q1, qP, va_K.moved (u := U) (U := U.calling g mk a) (Vm.Alike.refl U.vm) qK, qD, zN.same (s := U) (U := U.calling g mk a) rfl qN, zX.same (s := U) (U := U.calling g mk a) qX rfl rfl⟩
/-- what no handler ahead takes -/
def zHC (U : State) : Prop := va_Nc "java/lang/IllegalArgumentException" "java/lang/IndexOutOfBoundsException" U ∧ va_Nc "java/lang/IllegalStateException" "java/lang/IndexOutOfBoundsException" U
theorem zHC.moved {u U : State} (hvm : u.vm.Alike U.vm) (h : zHC u) : zHC U := ⟨h.1.moved hvm, h.2.moved hvm⟩
def zPrH (D : va_G) (tys : zTys) (as : List Value) (w0 : va_W) (sz : Nat) : Array Value → State → Prop := va_Pc as (fun U => U.heap.size = sz ∧ va_P D vwCl w0 U.heap ∧ va_K D vwCl tys U ∧ va_D (fun _ => True) w0 ∧ zN U ∧ zX (va_A w0 sz) U ∧ zHC U)
theorem zPrH.blind {D : va_G} {tys : zTys} {as : List Value} {w0 : va_W} {sz : Nat} : FrameBlind (zPrH D tys as w0 sz) := fun a U g mk q => by
  obtain ⟨q0, q1, qP, qK, qD, qN, qX, qH⟩ := q
  exact ⟨q0, q1, qP, va_K.moved (u := U) (U := U.calling g mk a) (Vm.Alike.refl U.vm) qK, qD, zN.same (s := U) (U := U.calling g mk a) rfl qN, zX.same (s := U) (U := U.calling g mk a) qX rfl rfl, zHC.moved (u := U) (U := U.calling g mk a) (Vm.Alike.refl U.vm) qH⟩
def Hi (l : Launch) (D : va_G) (tys : zTys) (y : MethodName) (ws : List Cond) (rm : Room) (mc ms : Nat) (as : List Value) (w0 : va_W) (post : Int → va_W → Prop) : Prop := ∀ sz : Nat, Met l y ws rm (zPrH D tys as w0 sz) (zQi D tys post (va_A w0 sz)) mc ms (va_A w0 sz)
theorem zsH {l : Launch} {D : va_G} {tys : zTys} {y : MethodName} {ws ws' : List Cond} {rm : Room} {mc ms : Nat} {as : List Value} {w0 : va_W} {cc : ByteArray} {maxL : Nat} {ret : Option FieldType} {hh : List (Nat × Nat × Nat × Nat)} {Qc : (Nat → Prop) → Array Value → State → Outcome → State → Prop}
    (hy : plainName y.cls = true) (hw : ws = Cond.codeWith y cc maxL ret hh :: ws') (hL : (lg_sl as).length ≤ maxL)
    (body : ∀ (p : Program) (e : Env) (s : State) (m : MethodId) (below : List Frame) (meth : Method) (c : Code) (ls : Array Slot) (A : Nat → Prop) (args : Array Value) (Q : State → Prop), Q = MQ below (Qc A) args s mc ms A → p.tables.exec = Jvm.exec → c.code = cc → meth.sig.returnType = ret → (∀ w ∈ ws, w.before args s = true) → s.vm.findClass y.cls = some m.cls → meth.locks = false → c.maxLocals = maxL → meth.name = y.name → zN s → zX A s → zHC s → c.exceptionTable.toList = tableOf hh → (∀ q : Nat, s.heap.size ≤ q → A q) → va_K D vwCl tys s → va_P D vwCl w0 s.heap → va_D A w0 → va_S A s.heap s.heap [] → lv_has ls maxL (lv_args 0 as) →
      W p l e rm s m args below meth c s.heap [] 0 0 Q (F0 m 0 ls [])) : ∀ sz : Nat, Met l y ws rm (zPrH D tys as w0 sz) (Qc (va_A w0 sz)) mc ms (va_A w0 sz) := by
  intro sz
  refine va_MetW (cc := cc) (maxL := maxL) (ret := ret) (hh := hh) hy hw ?_
  intro p e s m args below meth c s₁ B hml hv
  obtain ⟨rfl, hsz, hP, hK, hD0, hN, hX, hC⟩ := hv
  subst hsz
  have hl := lv_entry as (n := maxL) hL
  rw [lg_entry_eq]
  have hts := atoms_spec (ws := ws) B.pre
  have htab : c.exceptionTable.toList = tableOf hh := vx_table (x := y) B (hts _ (by rw [hw]; exact List.mem_cons_self))
  exact body p e s m below meth c _ _ _ _ rfl B.exec B.bytes B.returns hts (findClass_of_methodNamed B.named) B.notSynchronized hml (name_of_methodNamed B.named B.method).1 hN hX hC htab (fun q h => Or.inr h) hK hP hD0.self va_S.rf hl
section ZHR
variable {p : Program} {l : Launch} {e : Env} {R : Room} {s : State} {m : MethodId} {args : Array Value} {below : List Frame} {meth : Method} {c : Code} {H : Heap} {locs : List Loc} {cells slots : Nat} {Q : State → Prop} {cc : ByteArray} {pc : Nat} {ls : Array Slot} {rest : List Value}
theorem zh_Vi {D : va_G} {tys : zTys} {A : Nat → Prop} {n0 : Nat} {ad : Nat → Nat} {G : Nat → va_E} {post : Int → va_W → Prop} {px : String → Prop} {y : MethodName} {bytes : ByteArray} {maxL nL mc ms n index : Nat} {ret : Option FieldType} {ws Ts : List Cond} {rm : Room} {own : String} {As : List Value} {C : String} {b ci q0 : Nat} {cls : vw_C} {fs : List Value}
    (F : CallFix p m c cc nL s args Ts own) (hM : Xi l D tys y ws rm mc ms (.ref b :: As) (pw n0 ad G) post px) (cw : CallW R s args own C index y bytes maxL ret ws rm mc ms n) (hN : zN s) (hX : zX A s) (hK : va_K D vwCl tys s) (hP : va_P D vwCl (pw n0 ad G) H) (hD : va_D A (pw n0 ad G)) (hS : va_S A s.heap H locs) (hA : ∀ q : Nat, s.heap.size ≤ q → A q) (hcl : vwCl[ci]? = some cls) (hC0 : cls.1 = C) (hq0 : (pw n0 ad G)[q0]? = some (b, .inr (ci, fs))) (hn : As.length = n) (hsz : ls.size = nL) (hrm : (rest.map fun v => v.category).sum ≤ 8) (hd : decode cc pc = .ok (.invokevirtual index, 3)) (hf : cells + mc ≤ R.cells ∧ slots + ms ≤ R.slots)
    (kx : ∀ (E : String) (ce : Cell) (q9 : Addr) (H1 : Heap) (locs1 : List Loc), px E → va_P D vwCl (pw n0 ad G) H1 → va_D A (pw n0 ad G) → va_S A s.heap H1 locs1 → H1[q9]? = some ce → ce.vm = .none → s.vm.findClass E = some ce.cls → vx_W p l e R s m args below meth c H1 locs1 (cells + mc) (slots + ms) Q (F0 m pc ls rest) q9)
    (kk : ∀ (z : Int) (w1 : va_W) (H1 : Heap) (locs1 : List Loc), iR z → post z w1 → va_P D vwCl w1 H1 → va_D A w1 → va_S A s.heap H1 locs1 → W p l e R s m args below meth c H1 locs1 (cells + mc) (slots + ms) Q (F0 m (pc + 3) ls (.int (iZ z) :: rest))) : W p l e R s m args below meth c H locs cells slots Q (F0 m pc ls (As.reverse ++ .ref b :: rest)) := by
  have hC : (List.range n0).map (fun i => (pw n0 ad G)[i]?) = (pw n0 ad G).map some := pw_all _ _ _
  have hFc := va_free (wc := pw n0 ad G) hD hS hA (List.range n0) hC
  intro T hT X
  rcases vx_runV (As := As) (rest := rest) (free := va_A (pw n0 ad G) H.size) F (hM H.size) cw ⟨zPrX.blind, by have h9 := va_recv hK hP hcl hq0; rw [hC0] at h9; exact h9, fun U hU hW => ⟨rfl, by rw [hU], by rw [hU]; exact hP, va_K.moved hW.alike hK, hD.weaken (fun _ _ _ _ => trivial), hN.warm hW, hX.go hU hW hS hFc⟩⟩ (g := F0 m pc ls (As.reverse ++ .ref b :: rest)) rfl hn hsz rfl (lv_room hrm) hd hf T hT X with ⟨v, st₀, t, T', L, h0, X', hL, e1, e2, ⟨⟨r, u, hv, ⟨z, hz1, rfl, hp⟩, hB⟩, hF⟩, st⟩ | ⟨q, st₀, t, T', L, E, ce, h0, X', hL, e1, e2, ⟨hpx, hB, hF⟩, hce, hcv, hcl9, st⟩
  · cases hv
    obtain ⟨k1, k2, k3⟩ := vx_keep h0 e1 hS (fun q _ h => hFc q h) hFc hL hF
    obtain ⟨hP1, hK1, hD1⟩ := hB
    rw [← e1] at hP1
    obtain ⟨hPj, hDj⟩ := va_join (wr := []) (w1 := u) hP hD (List.range n0) [] hC rfl rfl (fun _ h9 => nomatch h9) k2 hFc hP1 hD1
    obtain ⟨t2, a1, b1⟩ := kk z u T'.heap (locs ++ L) hz1 hp hPj hDj k3 T' rfl X'
    exact ⟨t2, st t2 a1, b1⟩
  · obtain ⟨k1, k2, k3⟩ := vx_keep h0 e1 hS (fun q _ h => hFc q h) hFc hL hF
    obtain ⟨hP1, hK1, hD1⟩ := hB
    rw [← e1] at hP1
    obtain ⟨hPj, hDj⟩ := va_join (wr := []) (w1 := pw n0 ad G) hP hD (List.range n0) [] hC rfl rfl (fun _ h9 => nomatch h9) k2 hFc hP1 hD1
    obtain ⟨t2, a1, b1⟩ := kx E ce q T'.heap (locs ++ L) hpx hPj hDj k3 (by rw [e1]; exact hce) hcv hcl9 T' rfl X'
    exact ⟨t2, st.trans a1, b1⟩
theorem zh_Vv {D : va_G} {tys : zTys} {A : Nat → Prop} {n0 : Nat} {ad : Nat → Nat} {G : Nat → va_E} {post : va_W → Prop} {px : String → Prop} {y : MethodName} {bytes : ByteArray} {maxL nL mc ms n index : Nat} {ret : Option FieldType} {ws Ts : List Cond} {rm : Room} {own : String} {As : List Value} {C : String} {b ci q0 : Nat} {cls : vw_C} {fs : List Value}
    (F : CallFix p m c cc nL s args Ts own) (hM : Xv l D tys y ws rm mc ms (.ref b :: As) (pw n0 ad G) post px) (cw : CallW R s args own C index y bytes maxL ret ws rm mc ms n) (hN : zN s) (hX : zX A s) (hK : va_K D vwCl tys s) (hP : va_P D vwCl (pw n0 ad G) H) (hD : va_D A (pw n0 ad G)) (hS : va_S A s.heap H locs) (hA : ∀ q : Nat, s.heap.size ≤ q → A q) (hcl : vwCl[ci]? = some cls) (hC0 : cls.1 = C) (hq0 : (pw n0 ad G)[q0]? = some (b, .inr (ci, fs))) (hn : As.length = n) (hsz : ls.size = nL) (hrm : (rest.map fun v => v.category).sum ≤ 8) (hd : decode cc pc = .ok (.invokevirtual index, 3)) (hf : cells + mc ≤ R.cells ∧ slots + ms ≤ R.slots)
    (kx : ∀ (E : String) (ce : Cell) (q9 : Addr) (H1 : Heap) (locs1 : List Loc), px E → va_P D vwCl (pw n0 ad G) H1 → va_D A (pw n0 ad G) → va_S A s.heap H1 locs1 → H1[q9]? = some ce → ce.vm = .none → s.vm.findClass E = some ce.cls → vx_W p l e R s m args below meth c H1 locs1 (cells + mc) (slots + ms) Q (F0 m pc ls rest) q9)
    (kk : ∀ (w1 : va_W) (H1 : Heap) (locs1 : List Loc), post w1 → va_P D vwCl w1 H1 → va_D A w1 → va_S A s.heap H1 locs1 → W p l e R s m args below meth c H1 locs1 (cells + mc) (slots + ms) Q (F0 m (pc + 3) ls rest)) : W p l e R s m args below meth c H locs cells slots Q (F0 m pc ls (As.reverse ++ .ref b :: rest)) := by
  have hC : (List.range n0).map (fun i => (pw n0 ad G)[i]?) = (pw n0 ad G).map some := pw_all _ _ _
  have hFc := va_free (wc := pw n0 ad G) hD hS hA (List.range n0) hC
  intro T hT X
  rcases vx_runV (As := As) (rest := rest) (free := va_A (pw n0 ad G) H.size) F (hM H.size) cw ⟨zPrX.blind, by have h9 := va_recv hK hP hcl hq0; rw [hC0] at h9; exact h9, fun U hU hW => ⟨rfl, by rw [hU], by rw [hU]; exact hP, va_K.moved hW.alike hK, hD.weaken (fun _ _ _ _ => trivial), hN.warm hW, hX.go hU hW hS hFc⟩⟩ (g := F0 m pc ls (As.reverse ++ .ref b :: rest)) rfl hn hsz rfl (lv_room hrm) hd hf T hT X with ⟨v, st₀, t, T', L, h0, X', hL, e1, e2, ⟨⟨u, hv, hp, hB⟩, hF⟩, st⟩ | ⟨q, st₀, t, T', L, E, ce, h0, X', hL, e1, e2, ⟨hpx, hB, hF⟩, hce, hcv, hcl9, st⟩
  · cases hv
    obtain ⟨k1, k2, k3⟩ := vx_keep h0 e1 hS (fun q _ h => hFc q h) hFc hL hF
    obtain ⟨hP1, hK1, hD1⟩ := hB
    rw [← e1] at hP1
    obtain ⟨hPj, hDj⟩ := va_join (wr := []) (w1 := u) hP hD (List.range n0) [] hC rfl rfl (fun _ h9 => nomatch h9) k2 hFc hP1 hD1
    obtain ⟨t2, a1, b1⟩ := kk u T'.heap (locs ++ L) hp hPj hDj k3 T' rfl X'
    exact ⟨t2, st t2 a1, b1⟩
  · obtain ⟨k1, k2, k3⟩ := vx_keep h0 e1 hS (fun q _ h => hFc q h) hFc hL hF
    obtain ⟨hP1, hK1, hD1⟩ := hB
    rw [← e1] at hP1
    obtain ⟨hPj, hDj⟩ := va_join (wr := []) (w1 := pw n0 ad G) hP hD (List.range n0) [] hC rfl rfl (fun _ h9 => nomatch h9) k2 hFc hP1 hD1
    obtain ⟨t2, a1, b1⟩ := kx E ce q T'.heap (locs ++ L) hpx hPj hDj k3 (by rw [e1]; exact hce) hcv hcl9 T' rfl X'
    exact ⟨t2, st.trans a1, b1⟩
/-- caught by the first row; by the second, the first naming another class -/
theorem zh_c1 {own E : String} {ce : Cell} {q : Addr} {lo hi h ct : Nat} {hs : List (Nat × Nat × Nat × Nat)} (hown : s.vm.findClass own = some m.cls) (htab : c.exceptionTable.toList = tableOf ((lo, hi, h, ct) :: hs)) (hcov : covers (⟨lo, hi, h, ct⟩ : ExceptionTableEntry) pc = true) (h0 : ct ≠ 0) (hlink : (Cond.classLink own ct E).before args s = true) (hX : ∀ w ∈ zXW, va_Nw w s) (hE : Cond.castable E E ∈ zXW) (hcell : H[q]? = some ce) (hv : ce.vm = .none) (hcl : s.vm.findClass E = some ce.cls)
    (kk : W p l e R s m args below meth c H locs cells slots Q (F0 m h ls [.ref q])) : vx_W p l e R s m args below meth c H locs cells slots Q (F0 m pc ls rest) q :=
  vx_catch hown [] ⟨lo, hi, h, ct⟩ (tableOf hs) htab (fun _ h9 => nomatch h9) hcov h0 hlink (va_Nw.use rfl (hX _ hE)) hcell hv hcl kk
theorem zh_c2 {own E N1 : String} {ce : Cell} {q : Addr} {lo1 hi1 h1 ct1 lo hi h ct : Nat} {hs : List (Nat × Nat × Nat × Nat)} (hown : s.vm.findClass own = some m.cls) (htab : c.exceptionTable.toList = tableOf ((lo1, hi1, h1, ct1) :: (lo, hi, h, ct) :: hs)) (h10 : ct1 ≠ 0) (hlink1 : (Cond.classLink own ct1 N1).before args s = true) (hnc : va_Nc E N1 s) (hcov : covers (⟨lo, hi, h, ct⟩ : ExceptionTableEntry) pc = true) (h0 : ct ≠ 0) (hlink : (Cond.classLink own ct E).before args s = true) (hX : ∀ w ∈ zXW, va_Nw w s) (hE : Cond.castable E E ∈ zXW) (hcell : H[q]? = some ce) (hv : ce.vm = .none) (hcl : s.vm.findClass E = some ce.cls)
    (kk : W p l e R s m args below meth c H locs cells slots Q (F0 m h ls [.ref q])) : vx_W p l e R s m args below meth c H locs cells slots Q (F0 m pc ls rest) q :=
  vx_catch hown [⟨lo1, hi1, h1, ct1⟩] ⟨lo, hi, h, ct⟩ (tableOf hs) htab (fun z hz => Or.inr (by
    rw [List.mem_singleton] at hz
    rw [hz]
    exact ⟨h10, N1, hlink1, hnc⟩)) hcov h0 hlink (va_Nw.use rfl (hX _ hE)) hcell hv hcl kk
/-- a call of a helper -/
theorem zc_H {D : va_G} {tys : zTys} {A : Nat → Prop} {n0 : Nat} {ad : Nat → Nat} {G : Nat → va_E} {post : Int → va_W → Prop} {y : MethodName} {bytes : ByteArray} {maxL nL mc ms n index : Nat} {ret : Option FieldType} {hh : List (Nat × Nat × Nat × Nat)} {ws Ts : List Cond} {rm : Room} {own : String} {As : List Value}
    (F : CallFix p m c cc nL s args Ts own) (hM : Hi l D tys y ws rm mc ms As (pw n0 ad G) post) (cw : vx_CSW R s args own index y bytes maxL ret hh ws rm mc ms n) (hN : zN s) (hX : zX A s) (hHC : zHC s) (hK : va_K D vwCl tys s) (hP : va_P D vwCl (pw n0 ad G) H) (hD : va_D A (pw n0 ad G)) (hS : va_S A s.heap H locs) (hA : ∀ q : Nat, s.heap.size ≤ q → A q) (hn : As.length = n) (hsz : ls.size = nL) (hrm : (rest.map fun v => v.category).sum ≤ 8) (hd : decode cc pc = .ok (.invokestatic index, 3)) (hf : cells + mc ≤ R.cells ∧ slots + ms ≤ R.slots)
    (kk : ∀ (z : Int) (w1 : va_W) (H1 : Heap) (locs1 : List Loc), iR z → post z w1 → va_P D vwCl w1 H1 → va_D A w1 → va_S A s.heap H1 locs1 → W p l e R s m args below meth c H1 locs1 (cells + mc) (slots + ms) Q (F0 m (pc + 3) ls (.int (iZ z) :: rest))) : W p l e R s m args below meth c H locs cells slots Q (F0 m pc ls (As.reverse ++ rest)) := by
  have hC : (List.range n0).map (fun i => (pw n0 ad G)[i]?) = (pw n0 ad G).map some := pw_all _ _ _
  have hFc := va_free (wc := pw n0 ad G) hD hS hA (List.range n0) hC
  refine va_calli (A1 := va_A (pw n0 ad G) H.size) (free := va_A (pw n0 ad G) H.size) (vx_runSW (As := As) (rest := rest) F (hM H.size) cw ⟨zPrH.blind, fun U hU hW => ⟨rfl, by rw [hU], by rw [hU]; exact hP, va_K.moved hW.alike hK, hD.weaken (fun _ _ _ _ => trivial), hN.warm hW, hX.go hU hW hS hFc, hHC.moved hW.alike⟩⟩ (g := F0 m pc ls (As.reverse ++ rest)) rfl hn hsz rfl (lv_room hrm) hd hf) hS (fun q _ h => hFc q h) hFc (fun r u t H1 locs1 ht hvm hw hB hz1 hk1 hS1 => ?_)
  obtain ⟨hP1, hK1, hD1⟩ := hB
  rw [ht] at hP1
  obtain ⟨hPj, hDj⟩ := va_join (wr := []) (w1 := u) hP hD (List.range n0) [] hC rfl rfl (fun _ h9 => nomatch h9) hk1 hFc hP1 hD1
  obtain ⟨z, hz, rfl, hp⟩ := hw
  exact kk z u H1 locs1 hz hp hPj hDj hS1
end ZHR
