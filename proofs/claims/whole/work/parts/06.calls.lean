/-! the links between nest mates -/
def zNF : List (String × Nat × String × String × String × String) := [("LimbSolver$Residues", 23, "LimbSolver$Equations", "n", "I", "LimbSolver"), ("LimbSolver$Elimination", 145, "LimbSolver$Equations", "n", "I", "LimbSolver"), ("LimbSolver", 81, "LimbSolver$Equations", "n", "I", "LimbSolver"), ("LimbSolver$Arithmetic", 104, "LimbSolver$Equations", "n", "I", "LimbSolver"), ("LimbSolver$Division", 24, "LimbSolver$Whole", "words", "[I", "LimbSolver"), ("LimbSolver$Euclid", 59, "LimbSolver$Whole", "words", "[I", "LimbSolver"), ("LimbSolver$Division", 18, "LimbSolver$Whole", "count", "I", "LimbSolver"), ("LimbSolver$Euclid", 55, "LimbSolver$Whole", "count", "I", "LimbSolver"), ("LimbSolver$Arithmetic", 97, "LimbSolver$Whole", "count", "I", "LimbSolver"), ("LimbSolver$Elimination", 71, "LimbSolver$Entry", "amount", "LLimbSolver$Whole;", "LimbSolver"), ("LimbSolver$Arithmetic", 58, "LimbSolver$Entry", "amount", "LLimbSolver$Whole;", "LimbSolver"), ("LimbSolver$Elimination", 78, "LimbSolver$Entry", "sign", "I", "LimbSolver"), ("LimbSolver$Arithmetic", 74, "LimbSolver$Entry", "sign", "I", "LimbSolver"), ("LimbSolver$Arithmetic", 63, "LimbSolver$Fraction", "num", "LLimbSolver$Whole;", "LimbSolver"), ("LimbSolver$Arithmetic", 68, "LimbSolver$Fraction", "den", "LLimbSolver$Whole;", "LimbSolver"), ("LimbSolver$Arithmetic", 78, "LimbSolver$Fraction", "sign", "I", "LimbSolver"), ("LimbSolver$Elimination", 122, "LimbSolver$Row", "entries", "[LLimbSolver$Entry;", "LimbSolver"), ("LimbSolver$Elimination", 158, "LimbSolver$Row", "cells", "[LLimbSolver$Fraction;", "LimbSolver"), ("LimbSolver", 142, "LimbSolver$Row", "cells", "[LLimbSolver$Fraction;", "LimbSolver"), ("LimbSolver$Elimination", 151, "LimbSolver$Row", "scale", "LLimbSolver$Whole;", "LimbSolver"), ("LimbSolver$Elimination", 119, "LimbSolver$Row", "pivotColumn", "I", "LimbSolver"), ("LimbSolver", 138, "LimbSolver$Elimination", "rows", "[LLimbSolver$Row;", "LimbSolver"), ("LimbSolver", 119, "LimbSolver$Elimination", "unknowns", "[LLimbSolver$Fraction;", "LimbSolver"), ("LimbSolver", 108, "LimbSolver$Elimination", "pivotRows", "[I", "LimbSolver"), ("LimbSolver", 129, "LimbSolver$Elimination", "volume", "LLimbSolver$Fraction;", "LimbSolver"), ("LimbSolver", 95, "LimbSolver$Elimination", "pivots", "I", "LimbSolver"), ("LimbSolver", 92, "LimbSolver$Elimination", "mostLimbs", "I", "LimbSolver"), ("LimbSolver", 103, "LimbSolver$Elimination", "solvable", "Z", "LimbSolver")]
def zNM : List (String × Nat × MethodName × String) := [("LimbSolver$Equations", 40, ⟨"LimbSolver", "commonDivisor", "(JJ)J"⟩, "LimbSolver"), ("LimbSolver$Euclid", 63, ⟨"LimbSolver", "spareBits", "(I)I"⟩, "LimbSolver"), ("LimbSolver$Division", 34, ⟨"LimbSolver", "spareBits", "(I)I"⟩, "LimbSolver"), ("LimbSolver$Euclid", 89, ⟨"LimbSolver", "commonDivisor", "(JJ)J"⟩, "LimbSolver"), ("LimbSolver$Arithmetic", 116, ⟨"LimbSolver", "signOf", "(J)I"⟩, "LimbSolver"), ("LimbSolver$Fraction", 33, ⟨"LimbSolver", "signOf", "(J)I"⟩, "LimbSolver"), ("LimbSolver$Whole", 31, ⟨"LimbSolver", "spareBits", "(I)I"⟩, "LimbSolver")]
def zN (s : State) : Prop := (∀ q ∈ zNF, va_Nw (.fieldLinkNest q.1 q.2.1 q.2.2.1 q.2.2.2.1 q.2.2.2.2.1 q.2.2.2.2.2) s) ∧ ∀ q ∈ zNM, va_Nw (.methodLinkNest q.1 q.2.1 q.2.2.1 q.2.2.2) s
theorem zN.warm {s U : State} (hW : s.WarmedH U.vm) (h : zN s) : zN U := ⟨fun q hq => va_Nw.warmF hW (h.1 q hq), fun q hq => va_Nw.warmM hW (h.2 q hq)⟩
theorem zN.same {s U : State} (hW : s.vm = U.vm) (h : zN s) : zN U := ⟨fun q hq => va_Nw.same rfl hW (h.1 q hq), fun q hq => va_Nw.same rfl hW (h.2 q hq)⟩
theorem zN.F {s : State} (h : zN s) (k : Nat) {q : String × Nat × String × String × String × String} (hk : zNF[k]? = some q) {args : Array Value} : (Cond.fieldLinkNest q.1 q.2.1 q.2.2.1 q.2.2.2.1 q.2.2.2.2.1 q.2.2.2.2.2).before args s = true := va_Nw.use rfl (h.1 q (List.mem_of_getElem? hk))
theorem zN.M {s : State} (h : zN s) (k : Nat) {q : String × Nat × MethodName × String} (hk : zNM[k]? = some q) : va_Nw (.methodLinkNest q.1 q.2.1 q.2.2.1 q.2.2.2) s := h.2 q (List.mem_of_getElem? hk)
abbrev zTys : Type := List (ClassId × FieldType)
abbrev zRm (f l : Nat) : Room := { frames := f, cells := 0, slots := 0, locals := l }
abbrev zty (cI cJ cE cF cR : ClassId) : zTys := [(cI, .int), (cJ, .long), (cE, .object "LimbSolver$Entry"), (cF, .object "LimbSolver$Fraction"), (cR, .object "LimbSolver$Row")]
/-- the world behind a call -/
def zB (D : va_G) (tys : zTys) (A : Nat → Prop) (w1 : va_W) (t : State) : Prop := va_P D vwCl w1 t.heap ∧ va_K D vwCl tys t ∧ va_D A w1
/-- the start of a call -/
def zPr (D : va_G) (tys : zTys) (as : List Value) (w0 : va_W) (sz : Nat) : Array Value → State → Prop := va_Pc as (fun U => U.heap.size = sz ∧ va_P D vwCl w0 U.heap ∧ va_K D vwCl tys U ∧ va_D (fun _ => True) w0 ∧ zN U)
theorem zPr.blind {D : va_G} {tys : zTys} {as : List Value} {w0 : va_W} {sz : Nat} : FrameBlind (zPr D tys as w0 sz) := fun a U g mk q => by
  obtain ⟨q0, q1, qP, qK, qD, qN⟩ := q
  exact ⟨q0, q1, qP, va_K.moved (u := U) (U := U.calling g mk a) (Vm.Alike.refl U.vm) qK, qD, zN.same (s := U) (U := U.calling g mk a) rfl qN⟩
/-- contracts: no answer, an int, a long -/
def zQv (D : va_G) (tys : zTys) (post : va_W → Prop) (A : Nat → Prop) : Array Value → State → Outcome → State → Prop := va_Qv post (zB D tys A) A
def zQi (D : va_G) (tys : zTys) (post : Int → va_W → Prop) (A : Nat → Prop) : Array Value → State → Outcome → State → Prop := va_Qi (fun r w1 => ∃ z : Int, iR z ∧ r = iZ z ∧ post z w1) (zB D tys A) A
def zQl (D : va_G) (tys : zTys) (post : Int → va_W → Prop) (A : Nat → Prop) : Array Value → State → Outcome → State → Prop := va_Ql (fun r w1 => ∃ z : Int, lR z ∧ r = lZ z ∧ post z w1) (zB D tys A) A
def Cv (l : Launch) (D : va_G) (tys : zTys) (y : MethodName) (ws : List Cond) (rm : Room) (mc ms : Nat) (as : List Value) (w0 : va_W) (post : va_W → Prop) : Prop := ∀ sz : Nat, Met l y ws rm (zPr D tys as w0 sz) (zQv D tys post (va_A w0 sz)) mc ms (va_A w0 sz)
def Ci (l : Launch) (D : va_G) (tys : zTys) (y : MethodName) (ws : List Cond) (rm : Room) (mc ms : Nat) (as : List Value) (w0 : va_W) (post : Int → va_W → Prop) : Prop := ∀ sz : Nat, Met l y ws rm (zPr D tys as w0 sz) (zQi D tys post (va_A w0 sz)) mc ms (va_A w0 sz)
def Cl (l : Launch) (D : va_G) (tys : zTys) (y : MethodName) (ws : List Cond) (rm : Room) (mc ms : Nat) (as : List Value) (w0 : va_W) (post : Int → va_W → Prop) : Prop := ∀ sz : Nat, Met l y ws rm (zPr D tys as w0 sz) (zQl D tys post (va_A w0 sz)) mc ms (va_A w0 sz)
/-- a contract's walk begins -/
theorem zs {l : Launch} {D : va_G} {tys : zTys} {y : MethodName} {ws ws' : List Cond} {rm : Room} {mc ms : Nat} {as : List Value} {w0 : va_W} {cc : ByteArray} {maxL : Nat} {ret : Option FieldType} {Qc : (Nat → Prop) → Array Value → State → Outcome → State → Prop}
    (hy : plainName y.cls = true) (hw : ws = Cond.code y cc maxL ret :: ws') (hL : (lg_sl as).length ≤ maxL)
    (body : ∀ (p : Program) (e : Env) (s : State) (m : MethodId) (below : List Frame) (meth : Method) (c : Code) (ls : Array Slot) (A : Nat → Prop) (args : Array Value) (Q : State → Prop), Q = MQ below (Qc A) args s mc ms A → p.tables.exec = Jvm.exec → c.code = cc → meth.sig.returnType = ret → (∀ w ∈ ws, w.before args s = true) → s.vm.findClass y.cls = some m.cls → meth.locks = false → c.maxLocals = maxL → meth.name = y.name → zN s → (∀ q : Nat, s.heap.size ≤ q → A q) → va_K D vwCl tys s → va_P D vwCl w0 s.heap → va_D A w0 → va_S A s.heap s.heap [] → lv_has ls maxL (lv_args 0 as) →
      W p l e rm s m args below meth c s.heap [] 0 0 Q (F0 m 0 ls [])) : ∀ sz : Nat, Met l y ws rm (zPr D tys as w0 sz) (Qc (va_A w0 sz)) mc ms (va_A w0 sz) := by
  intro sz
  refine Met.ofW (cc := cc) (maxL := maxL) (ret := ret) hy hw ?_
  intro p e s m args below meth c s₁ B hml hv
  obtain ⟨rfl, hsz, hP, hK, hD0, hN⟩ := hv
  subst hsz
  have hl := lv_entry as (n := maxL) hL
  rw [lg_entry_eq]
  exact body p e s m below meth c _ _ _ _ rfl B.exec B.bytes B.returns (atoms_spec (ws := ws) B.pre) (findClass_of_methodNamed B.named) B.notSynchronized hml (name_of_methodNamed B.named B.method).1 hN (fun q h => Or.inr h) hK hP hD0.self va_S.rf hl
theorem zc_fm {w wc : va_W} {is : List Nat} (h : is.map (fun i => w[i]?) = wc.map some) : is.filterMap (fun i => w[i]?) = wc := by
  induction is generalizing wc with
  | nil => cases wc with
    | nil => rfl
    | cons a t => simp at h
  | cons i t ih => cases wc with
    | nil => simp at h
    | cons a u =>
      simp only [List.map_cons, List.cons.injEq] at h
      rw [List.filterMap_cons, h.1]
      simp [ih h.2]
section ZR
variable {p : Program} {l : Launch} {e : Env} {R : Room} {s : State} {m : MethodId} {args : Array Value} {below : List Frame} {meth : Method} {c : Code} {H : Heap} {locs : List Loc} {cells slots : Nat} {Q : State → Prop} {cc : ByteArray} {pc : Nat} {ls : Array Slot} {rest : List Value}
theorem zr_vret {D : va_G} {tys : zTys} {A : Nat → Prop} {w1 : va_W} {post : va_W → Prop} {mc ms : Nat} (hQ : Q = MQ below (zQv D tys post A) args s mc ms A) (hx : p.tables.exec = Jvm.exec) (hb : c.code = cc) (hr : meth.sig.returnType = none) (hlk : meth.locks = false) (hd : decode cc pc = .ok (.return_, 1)) (hK : va_K D vwCl tys s) (hP : va_P D vwCl w1 H) (hD : va_D A w1) (hS : va_S A s.heap H locs) (hc : cells ≤ mc) (hs : slots ≤ ms) (hpost : post w1) : W p l e R s m args below meth c H locs cells slots Q (F0 m pc ls []) := by
  subst hQ
  exact W.widen hc hs (W.vret hx hb hr (fun t ht hW => ⟨⟨w1, rfl, hpost, by rw [ht]; exact hP, va_K.moved hW.alike hK, hD⟩, hS.F ht⟩) hS.2.2 hd hlk)
theorem zr_iret {D : va_G} {tys : zTys} {A : Nat → Prop} {w1 : va_W} {post : Int → va_W → Prop} {mc ms : Nat} {z : Int} (hQ : Q = MQ below (zQi D tys post A) args s mc ms A) (hx : p.tables.exec = Jvm.exec) (hb : c.code = cc) (hr : meth.sig.returnType = some .int) (hlk : meth.locks = false) (hd : decode cc pc = .ok (.ireturn, 1)) (hK : va_K D vwCl tys s) (hP : va_P D vwCl w1 H) (hD : va_D A w1) (hS : va_S A s.heap H locs) (hc : cells ≤ mc) (hs : slots ≤ ms) (hz : iR z) (hpost : post z w1) : W p l e R s m args below meth c H locs cells slots Q (F0 m pc ls [.int (iZ z)]) := by
  subst hQ
  exact W.widen hc hs (W.iret (v := iZ z) hx hb hr (fun t ht hW => ⟨⟨iZ z, w1, rfl, ⟨z, hz, rfl, hpost⟩, by rw [ht]; exact hP, va_K.moved hW.alike hK, hD⟩, hS.F ht⟩) hS.2.2 hd hlk)
theorem zr_zret {D : va_G} {tys : zTys} {A : Nat → Prop} {w1 : va_W} {post : Int → va_W → Prop} {mc ms : Nat} {z : Int} (hQ : Q = MQ below (zQi D tys post A) args s mc ms A) (hx : p.tables.exec = Jvm.exec) (hb : c.code = cc) (hr : meth.sig.returnType = some .boolean) (hlk : meth.locks = false) (hd : decode cc pc = .ok (.ireturn, 1)) (hK : va_K D vwCl tys s) (hP : va_P D vwCl w1 H) (hD : va_D A w1) (hS : va_S A s.heap H locs) (hc : cells ≤ mc) (hs : slots ≤ ms) (hz : z = 0 ∨ z = 1) (hpost : post z w1) : W p l e R s m args below meth c H locs cells slots Q (F0 m pc ls [.int (iZ z)]) := by
  subst hQ
  exact W.widen hc hs (W.zret (v := iZ z) hx hb hr (by rcases hz with rfl | rfl <;> rfl) (fun t ht hW => ⟨⟨iZ z, w1, rfl, ⟨z, by rcases hz with rfl | rfl <;> decide, rfl, hpost⟩, by rw [ht]; exact hP, va_K.moved hW.alike hK, hD⟩, hS.F ht⟩) hS.2.2 hd hlk)
theorem zr_lret {D : va_G} {tys : zTys} {A : Nat → Prop} {w1 : va_W} {post : Int → va_W → Prop} {mc ms : Nat} {z : Int} (hQ : Q = MQ below (zQl D tys post A) args s mc ms A) (hx : p.tables.exec = Jvm.exec) (hb : c.code = cc) (hr : meth.sig.returnType = some .long) (hlk : meth.locks = false) (hd : decode cc pc = .ok (.lreturn, 1)) (hK : va_K D vwCl tys s) (hP : va_P D vwCl w1 H) (hD : va_D A w1) (hS : va_S A s.heap H locs) (hc : cells ≤ mc) (hs : slots ≤ ms) (hz : lR z) (hpost : post z w1) : W p l e R s m args below meth c H locs cells slots Q (F0 m pc ls [.long (lZ z)]) := by
  subst hQ
  exact W.widen hc hs (W.lret (v := lZ z) hx hb hr (fun t ht hW => ⟨⟨lZ z, w1, rfl, ⟨z, hz, rfl, hpost⟩, by rw [ht]; exact hP, va_K.moved hW.alike hK, hD⟩, hS.F ht⟩) hS.2.2 hd hlk)
theorem zc_Vv {D : va_G} {tys : zTys} {A : Nat → Prop} {w wc wr : va_W} {post : va_W → Prop} {y : MethodName} {bytes : ByteArray} {maxL nL mc ms n index : Nat} {ret : Option FieldType} {ws Ts : List Cond} {rm : Room} {own : String} {As : List Value} {C : String} {b ci q0 : Nat} {cls : vw_C} {fs : List Value}
    (F : CallFix p m c cc nL s args Ts own) (hM : Cv l D tys y ws rm mc ms (.ref b :: As) wc post) (cw : CallW R s args own C index y bytes maxL ret ws rm mc ms n) (hN : zN s) (hK : va_K D vwCl tys s) (hP : va_P D vwCl w H) (hD : va_D A w) (hS : va_S A s.heap H locs) (hA : ∀ q : Nat, s.heap.size ≤ q → A q) (isC isR : List Nat) (hC : isC.map (fun i => w[i]?) = wc.map some) (hR : isR.map (fun i => w[i]?) = wr.map some) (hnC : va_nd isC = true) (hnR : va_nd isR = true) (hdis : ∀ i ∈ isR, i ∉ isC) (hcl : vwCl[ci]? = some cls) (hC0 : cls.1 = C) (hq0 : wc[q0]? = some (b, .inr (ci, fs))) (hn : As.length = n) (hsz : ls.size = nL) (hrm : (rest.map fun v => v.category).sum ≤ 8) (hd : decode cc pc = .ok (.invokevirtual index, 3)) (hf : cells + mc ≤ R.cells ∧ slots + ms ≤ R.slots)
    (kk : ∀ (w1 : va_W) (H1 : Heap) (locs1 : List Loc), post w1 → va_P D vwCl (wr ++ w1) H1 → va_D A (wr ++ w1) → va_S A s.heap H1 locs1 → W p l e R s m args below meth c H1 locs1 (cells + mc) (slots + ms) Q (F0 m (pc + 3) ls rest)) : W p l e R s m args below meth c H locs cells slots Q (F0 m pc ls (As.reverse ++ .ref b :: rest)) := by
  have hPc : va_P D vwCl wc H := hP.sub isC (by rw [zc_fm hC])
  have hDc : va_D A wc := hD.sub isC hnC hC
  have hFc := va_free (wc := wc) hD hS hA isC hC
  refine va_callv (A1 := va_A wc H.size) (free := va_A wc H.size) (va_runV (As := As) (rest := rest) F (hM H.size) cw ⟨zPr.blind, by have h9 := va_recv hK hPc hcl hq0; rw [hC0] at h9; exact h9, fun U hU hW => ⟨rfl, by rw [hU], by rw [hU]; exact hPc, va_K.moved hW.alike hK, hDc.weaken (fun _ _ _ _ => trivial), hN.warm hW⟩⟩ rfl hn hsz rfl (lv_room hrm) hd hf) hS (fun q _ h => hFc q h) hFc (fun u t H1 locs1 ht hvm hw hB hz1 hk1 hS1 => ?_)
  obtain ⟨hP1, hK1, hD1⟩ := hB
  rw [ht] at hP1
  obtain ⟨hPj, hDj⟩ := va_join (wr := wr) (w1 := u) hP hD isC isR hC hR hnR hdis hk1 hFc hP1 hD1
  exact kk u H1 locs1 hw hPj hDj hS1
theorem zc_Vi {D : va_G} {tys : zTys} {A : Nat → Prop} {w wc wr : va_W} {post : Int → va_W → Prop} {y : MethodName} {bytes : ByteArray} {maxL nL mc ms n index : Nat} {ret : Option FieldType} {ws Ts : List Cond} {rm : Room} {own : String} {As : List Value} {C : String} {b ci q0 : Nat} {cls : vw_C} {fs : List Value}
    (F : CallFix p m c cc nL s args Ts own) (hM : Ci l D tys y ws rm mc ms (.ref b :: As) wc post) (cw : CallW R s args own C index y bytes maxL ret ws rm mc ms n) (hN : zN s) (hK : va_K D vwCl tys s) (hP : va_P D vwCl w H) (hD : va_D A w) (hS : va_S A s.heap H locs) (hA : ∀ q : Nat, s.heap.size ≤ q → A q) (isC isR : List Nat) (hC : isC.map (fun i => w[i]?) = wc.map some) (hR : isR.map (fun i => w[i]?) = wr.map some) (hnC : va_nd isC = true) (hnR : va_nd isR = true) (hdis : ∀ i ∈ isR, i ∉ isC) (hcl : vwCl[ci]? = some cls) (hC0 : cls.1 = C) (hq0 : wc[q0]? = some (b, .inr (ci, fs))) (hn : As.length = n) (hsz : ls.size = nL) (hrm : (rest.map fun v => v.category).sum ≤ 8) (hd : decode cc pc = .ok (.invokevirtual index, 3)) (hf : cells + mc ≤ R.cells ∧ slots + ms ≤ R.slots)
    (kk : ∀ (z : Int) (w1 : va_W) (H1 : Heap) (locs1 : List Loc), iR z → post z w1 → va_P D vwCl (wr ++ w1) H1 → va_D A (wr ++ w1) → va_S A s.heap H1 locs1 → W p l e R s m args below meth c H1 locs1 (cells + mc) (slots + ms) Q (F0 m (pc + 3) ls (.int (iZ z) :: rest))) : W p l e R s m args below meth c H locs cells slots Q (F0 m pc ls (As.reverse ++ .ref b :: rest)) := by
  have hPc : va_P D vwCl wc H := hP.sub isC (by rw [zc_fm hC])
  have hDc : va_D A wc := hD.sub isC hnC hC
  have hFc := va_free (wc := wc) hD hS hA isC hC
  refine va_calli (A1 := va_A wc H.size) (free := va_A wc H.size) (va_runV (As := As) (rest := rest) F (hM H.size) cw ⟨zPr.blind, by have h9 := va_recv hK hPc hcl hq0; rw [hC0] at h9; exact h9, fun U hU hW => ⟨rfl, by rw [hU], by rw [hU]; exact hPc, va_K.moved hW.alike hK, hDc.weaken (fun _ _ _ _ => trivial), hN.warm hW⟩⟩ rfl hn hsz rfl (lv_room hrm) hd hf) hS (fun q _ h => hFc q h) hFc (fun r u t H1 locs1 ht hvm hw hB hz1 hk1 hS1 => ?_)
  obtain ⟨hP1, hK1, hD1⟩ := hB
  rw [ht] at hP1
  obtain ⟨hPj, hDj⟩ := va_join (wr := wr) (w1 := u) hP hD isC isR hC hR hnR hdis hk1 hFc hP1 hD1
  obtain ⟨z, hz, rfl, hp⟩ := hw
  exact kk z u H1 locs1 hz hp hPj hDj hS1
theorem zc_Vl {D : va_G} {tys : zTys} {A : Nat → Prop} {w wc wr : va_W} {post : Int → va_W → Prop} {y : MethodName} {bytes : ByteArray} {maxL nL mc ms n index : Nat} {ret : Option FieldType} {ws Ts : List Cond} {rm : Room} {own : String} {As : List Value} {C : String} {b ci q0 : Nat} {cls : vw_C} {fs : List Value}
    (F : CallFix p m c cc nL s args Ts own) (hM : Cl l D tys y ws rm mc ms (.ref b :: As) wc post) (cw : CallW R s args own C index y bytes maxL ret ws rm mc ms n) (hN : zN s) (hK : va_K D vwCl tys s) (hP : va_P D vwCl w H) (hD : va_D A w) (hS : va_S A s.heap H locs) (hA : ∀ q : Nat, s.heap.size ≤ q → A q) (isC isR : List Nat) (hC : isC.map (fun i => w[i]?) = wc.map some) (hR : isR.map (fun i => w[i]?) = wr.map some) (hnC : va_nd isC = true) (hnR : va_nd isR = true) (hdis : ∀ i ∈ isR, i ∉ isC) (hcl : vwCl[ci]? = some cls) (hC0 : cls.1 = C) (hq0 : wc[q0]? = some (b, .inr (ci, fs))) (hn : As.length = n) (hsz : ls.size = nL) (hrm : (rest.map fun v => v.category).sum ≤ 8) (hd : decode cc pc = .ok (.invokevirtual index, 3)) (hf : cells + mc ≤ R.cells ∧ slots + ms ≤ R.slots)
    (kk : ∀ (z : Int) (w1 : va_W) (H1 : Heap) (locs1 : List Loc), lR z → post z w1 → va_P D vwCl (wr ++ w1) H1 → va_D A (wr ++ w1) → va_S A s.heap H1 locs1 → W p l e R s m args below meth c H1 locs1 (cells + mc) (slots + ms) Q (F0 m (pc + 3) ls (.long (lZ z) :: rest))) : W p l e R s m args below meth c H locs cells slots Q (F0 m pc ls (As.reverse ++ .ref b :: rest)) := by
  have hPc : va_P D vwCl wc H := hP.sub isC (by rw [zc_fm hC])
  have hDc : va_D A wc := hD.sub isC hnC hC
  have hFc := va_free (wc := wc) hD hS hA isC hC
  refine va_calll (A1 := va_A wc H.size) (free := va_A wc H.size) (va_runV (As := As) (rest := rest) F (hM H.size) cw ⟨zPr.blind, by have h9 := va_recv hK hPc hcl hq0; rw [hC0] at h9; exact h9, fun U hU hW => ⟨rfl, by rw [hU], by rw [hU]; exact hPc, va_K.moved hW.alike hK, hDc.weaken (fun _ _ _ _ => trivial), hN.warm hW⟩⟩ rfl hn hsz rfl (lv_room hrm) hd hf) hS (fun q _ h => hFc q h) hFc (fun r u t H1 locs1 ht hvm hw hB hz1 hk1 hS1 => ?_)
  obtain ⟨hP1, hK1, hD1⟩ := hB
  rw [ht] at hP1
  obtain ⟨hPj, hDj⟩ := va_join (wr := wr) (w1 := u) hP hD isC isR hC hR hnR hdis hk1 hFc hP1 hD1
  obtain ⟨z, hz, rfl, hp⟩ := hw
  exact kk z u H1 locs1 hz hp hPj hDj hS1
theorem zc_VNv {D : va_G} {tys : zTys} {A : Nat → Prop} {w wc wr : va_W} {post : va_W → Prop} {y : MethodName} {bytes : ByteArray} {maxL nL mc ms n index : Nat} {ret : Option FieldType} {ws Ts : List Cond} {rm : Room} {own : String} {As : List Value} {C host : String} {b ci q0 : Nat} {cls : vw_C} {fs : List Value}
    (F : CallFix p m c cc nL s args Ts own) (hM : Cv l D tys y ws rm mc ms (.ref b :: As) wc post) (cw : va_CN R s args own index y host bytes maxL ret ws rm mc ms n ∧ (Cond.instanceMethod y).before args s = true ∧ (Cond.selects C y y).before args s = true) (hN : zN s) (hK : va_K D vwCl tys s) (hP : va_P D vwCl w H) (hD : va_D A w) (hS : va_S A s.heap H locs) (hA : ∀ q : Nat, s.heap.size ≤ q → A q) (isC isR : List Nat) (hC : isC.map (fun i => w[i]?) = wc.map some) (hR : isR.map (fun i => w[i]?) = wr.map some) (hnC : va_nd isC = true) (hnR : va_nd isR = true) (hdis : ∀ i ∈ isR, i ∉ isC) (hcl : vwCl[ci]? = some cls) (hC0 : cls.1 = C) (hq0 : wc[q0]? = some (b, .inr (ci, fs))) (hn : As.length = n) (hsz : ls.size = nL) (hrm : (rest.map fun v => v.category).sum ≤ 8) (hd : decode cc pc = .ok (.invokevirtual index, 3)) (hf : cells + mc ≤ R.cells ∧ slots + ms ≤ R.slots)
    (kk : ∀ (w1 : va_W) (H1 : Heap) (locs1 : List Loc), post w1 → va_P D vwCl (wr ++ w1) H1 → va_D A (wr ++ w1) → va_S A s.heap H1 locs1 → W p l e R s m args below meth c H1 locs1 (cells + mc) (slots + ms) Q (F0 m (pc + 3) ls rest)) : W p l e R s m args below meth c H locs cells slots Q (F0 m pc ls (As.reverse ++ .ref b :: rest)) := by
  have hPc : va_P D vwCl wc H := hP.sub isC (by rw [zc_fm hC])
  have hDc : va_D A wc := hD.sub isC hnC hC
  have hFc := va_free (wc := wc) hD hS hA isC hC
  refine va_callv (A1 := va_A wc H.size) (free := va_A wc H.size) (va_runVN (As := As) (rest := rest) F (hM H.size) cw ⟨zPr.blind, by have h9 := va_recv hK hPc hcl hq0; rw [hC0] at h9; exact h9, fun U hU hW => ⟨rfl, by rw [hU], by rw [hU]; exact hPc, va_K.moved hW.alike hK, hDc.weaken (fun _ _ _ _ => trivial), hN.warm hW⟩⟩ rfl hn hsz rfl (lv_room hrm) hd hf) hS (fun q _ h => hFc q h) hFc (fun u t H1 locs1 ht hvm hw hB hz1 hk1 hS1 => ?_)
  obtain ⟨hP1, hK1, hD1⟩ := hB
  rw [ht] at hP1
  obtain ⟨hPj, hDj⟩ := va_join (wr := wr) (w1 := u) hP hD isC isR hC hR hnR hdis hk1 hFc hP1 hD1
  exact kk u H1 locs1 hw hPj hDj hS1
theorem zc_VNi {D : va_G} {tys : zTys} {A : Nat → Prop} {w wc wr : va_W} {post : Int → va_W → Prop} {y : MethodName} {bytes : ByteArray} {maxL nL mc ms n index : Nat} {ret : Option FieldType} {ws Ts : List Cond} {rm : Room} {own : String} {As : List Value} {C host : String} {b ci q0 : Nat} {cls : vw_C} {fs : List Value}
    (F : CallFix p m c cc nL s args Ts own) (hM : Ci l D tys y ws rm mc ms (.ref b :: As) wc post) (cw : va_CN R s args own index y host bytes maxL ret ws rm mc ms n ∧ (Cond.instanceMethod y).before args s = true ∧ (Cond.selects C y y).before args s = true) (hN : zN s) (hK : va_K D vwCl tys s) (hP : va_P D vwCl w H) (hD : va_D A w) (hS : va_S A s.heap H locs) (hA : ∀ q : Nat, s.heap.size ≤ q → A q) (isC isR : List Nat) (hC : isC.map (fun i => w[i]?) = wc.map some) (hR : isR.map (fun i => w[i]?) = wr.map some) (hnC : va_nd isC = true) (hnR : va_nd isR = true) (hdis : ∀ i ∈ isR, i ∉ isC) (hcl : vwCl[ci]? = some cls) (hC0 : cls.1 = C) (hq0 : wc[q0]? = some (b, .inr (ci, fs))) (hn : As.length = n) (hsz : ls.size = nL) (hrm : (rest.map fun v => v.category).sum ≤ 8) (hd : decode cc pc = .ok (.invokevirtual index, 3)) (hf : cells + mc ≤ R.cells ∧ slots + ms ≤ R.slots)
    (kk : ∀ (z : Int) (w1 : va_W) (H1 : Heap) (locs1 : List Loc), iR z → post z w1 → va_P D vwCl (wr ++ w1) H1 → va_D A (wr ++ w1) → va_S A s.heap H1 locs1 → W p l e R s m args below meth c H1 locs1 (cells + mc) (slots + ms) Q (F0 m (pc + 3) ls (.int (iZ z) :: rest))) : W p l e R s m args below meth c H locs cells slots Q (F0 m pc ls (As.reverse ++ .ref b :: rest)) := by
  have hPc : va_P D vwCl wc H := hP.sub isC (by rw [zc_fm hC])
  have hDc : va_D A wc := hD.sub isC hnC hC
  have hFc := va_free (wc := wc) hD hS hA isC hC
  refine va_calli (A1 := va_A wc H.size) (free := va_A wc H.size) (va_runVN (As := As) (rest := rest) F (hM H.size) cw ⟨zPr.blind, by have h9 := va_recv hK hPc hcl hq0; rw [hC0] at h9; exact h9, fun U hU hW => ⟨rfl, by rw [hU], by rw [hU]; exact hPc, va_K.moved hW.alike hK, hDc.weaken (fun _ _ _ _ => trivial), hN.warm hW⟩⟩ rfl hn hsz rfl (lv_room hrm) hd hf) hS (fun q _ h => hFc q h) hFc (fun r u t H1 locs1 ht hvm hw hB hz1 hk1 hS1 => ?_)
  obtain ⟨hP1, hK1, hD1⟩ := hB
  rw [ht] at hP1
  obtain ⟨hPj, hDj⟩ := va_join (wr := wr) (w1 := u) hP hD isC isR hC hR hnR hdis hk1 hFc hP1 hD1
  obtain ⟨z, hz, rfl, hp⟩ := hw
  exact kk z u H1 locs1 hz hp hPj hDj hS1
theorem zc_VNl {D : va_G} {tys : zTys} {A : Nat → Prop} {w wc wr : va_W} {post : Int → va_W → Prop} {y : MethodName} {bytes : ByteArray} {maxL nL mc ms n index : Nat} {ret : Option FieldType} {ws Ts : List Cond} {rm : Room} {own : String} {As : List Value} {C host : String} {b ci q0 : Nat} {cls : vw_C} {fs : List Value}
    (F : CallFix p m c cc nL s args Ts own) (hM : Cl l D tys y ws rm mc ms (.ref b :: As) wc post) (cw : va_CN R s args own index y host bytes maxL ret ws rm mc ms n ∧ (Cond.instanceMethod y).before args s = true ∧ (Cond.selects C y y).before args s = true) (hN : zN s) (hK : va_K D vwCl tys s) (hP : va_P D vwCl w H) (hD : va_D A w) (hS : va_S A s.heap H locs) (hA : ∀ q : Nat, s.heap.size ≤ q → A q) (isC isR : List Nat) (hC : isC.map (fun i => w[i]?) = wc.map some) (hR : isR.map (fun i => w[i]?) = wr.map some) (hnC : va_nd isC = true) (hnR : va_nd isR = true) (hdis : ∀ i ∈ isR, i ∉ isC) (hcl : vwCl[ci]? = some cls) (hC0 : cls.1 = C) (hq0 : wc[q0]? = some (b, .inr (ci, fs))) (hn : As.length = n) (hsz : ls.size = nL) (hrm : (rest.map fun v => v.category).sum ≤ 8) (hd : decode cc pc = .ok (.invokevirtual index, 3)) (hf : cells + mc ≤ R.cells ∧ slots + ms ≤ R.slots)
    (kk : ∀ (z : Int) (w1 : va_W) (H1 : Heap) (locs1 : List Loc), lR z → post z w1 → va_P D vwCl (wr ++ w1) H1 → va_D A (wr ++ w1) → va_S A s.heap H1 locs1 → W p l e R s m args below meth c H1 locs1 (cells + mc) (slots + ms) Q (F0 m (pc + 3) ls (.long (lZ z) :: rest))) : W p l e R s m args below meth c H locs cells slots Q (F0 m pc ls (As.reverse ++ .ref b :: rest)) := by
  have hPc : va_P D vwCl wc H := hP.sub isC (by rw [zc_fm hC])
  have hDc : va_D A wc := hD.sub isC hnC hC
  have hFc := va_free (wc := wc) hD hS hA isC hC
  refine va_calll (A1 := va_A wc H.size) (free := va_A wc H.size) (va_runVN (As := As) (rest := rest) F (hM H.size) cw ⟨zPr.blind, by have h9 := va_recv hK hPc hcl hq0; rw [hC0] at h9; exact h9, fun U hU hW => ⟨rfl, by rw [hU], by rw [hU]; exact hPc, va_K.moved hW.alike hK, hDc.weaken (fun _ _ _ _ => trivial), hN.warm hW⟩⟩ rfl hn hsz rfl (lv_room hrm) hd hf) hS (fun q _ h => hFc q h) hFc (fun r u t H1 locs1 ht hvm hw hB hz1 hk1 hS1 => ?_)
  obtain ⟨hP1, hK1, hD1⟩ := hB
  rw [ht] at hP1
  obtain ⟨hPj, hDj⟩ := va_join (wr := wr) (w1 := u) hP hD isC isR hC hR hnR hdis hk1 hFc hP1 hD1
  obtain ⟨z, hz, rfl, hp⟩ := hw
  exact kk z u H1 locs1 hz hp hPj hDj hS1
theorem zc_Sv {D : va_G} {tys : zTys} {A : Nat → Prop} {w wc wr : va_W} {post : va_W → Prop} {y : MethodName} {bytes : ByteArray} {maxL nL mc ms n index : Nat} {ret : Option FieldType} {ws Ts : List Cond} {rm : Room} {own : String} {As : List Value} 
    (F : CallFix p m c cc nL s args Ts own) (hM : Cv l D tys y ws rm mc ms (As) wc post) (cw : CallB R s args own index y bytes maxL ret ws rm mc ms n ∧ (Cond.static y).before args s = true) (hN : zN s) (hK : va_K D vwCl tys s) (hP : va_P D vwCl w H) (hD : va_D A w) (hS : va_S A s.heap H locs) (hA : ∀ q : Nat, s.heap.size ≤ q → A q) (isC isR : List Nat) (hC : isC.map (fun i => w[i]?) = wc.map some) (hR : isR.map (fun i => w[i]?) = wr.map some) (hnC : va_nd isC = true) (hnR : va_nd isR = true) (hdis : ∀ i ∈ isR, i ∉ isC)  (hn : As.length = n) (hsz : ls.size = nL) (hrm : (rest.map fun v => v.category).sum ≤ 8) (hd : decode cc pc = .ok (.invokestatic index, 3)) (hf : cells + mc ≤ R.cells ∧ slots + ms ≤ R.slots)
    (kk : ∀ (w1 : va_W) (H1 : Heap) (locs1 : List Loc), post w1 → va_P D vwCl (wr ++ w1) H1 → va_D A (wr ++ w1) → va_S A s.heap H1 locs1 → W p l e R s m args below meth c H1 locs1 (cells + mc) (slots + ms) Q (F0 m (pc + 3) ls rest)) : W p l e R s m args below meth c H locs cells slots Q (F0 m pc ls (As.reverse ++ rest)) := by
  have hPc : va_P D vwCl wc H := hP.sub isC (by rw [zc_fm hC])
  have hDc : va_D A wc := hD.sub isC hnC hC
  have hFc := va_free (wc := wc) hD hS hA isC hC
  refine va_callv (A1 := va_A wc H.size) (free := va_A wc H.size) (va_runS (As := As) (rest := rest) F (hM H.size) cw ⟨zPr.blind, fun U hU hW => ⟨rfl, by rw [hU], by rw [hU]; exact hPc, va_K.moved hW.alike hK, hDc.weaken (fun _ _ _ _ => trivial), hN.warm hW⟩⟩ rfl hn hsz rfl (lv_room hrm) hd hf) hS (fun q _ h => hFc q h) hFc (fun u t H1 locs1 ht hvm hw hB hz1 hk1 hS1 => ?_)
  obtain ⟨hP1, hK1, hD1⟩ := hB
  rw [ht] at hP1
  obtain ⟨hPj, hDj⟩ := va_join (wr := wr) (w1 := u) hP hD isC isR hC hR hnR hdis hk1 hFc hP1 hD1
  exact kk u H1 locs1 hw hPj hDj hS1
theorem zc_Si {D : va_G} {tys : zTys} {A : Nat → Prop} {w wc wr : va_W} {post : Int → va_W → Prop} {y : MethodName} {bytes : ByteArray} {maxL nL mc ms n index : Nat} {ret : Option FieldType} {ws Ts : List Cond} {rm : Room} {own : String} {As : List Value} 
    (F : CallFix p m c cc nL s args Ts own) (hM : Ci l D tys y ws rm mc ms (As) wc post) (cw : CallB R s args own index y bytes maxL ret ws rm mc ms n ∧ (Cond.static y).before args s = true) (hN : zN s) (hK : va_K D vwCl tys s) (hP : va_P D vwCl w H) (hD : va_D A w) (hS : va_S A s.heap H locs) (hA : ∀ q : Nat, s.heap.size ≤ q → A q) (isC isR : List Nat) (hC : isC.map (fun i => w[i]?) = wc.map some) (hR : isR.map (fun i => w[i]?) = wr.map some) (hnC : va_nd isC = true) (hnR : va_nd isR = true) (hdis : ∀ i ∈ isR, i ∉ isC)  (hn : As.length = n) (hsz : ls.size = nL) (hrm : (rest.map fun v => v.category).sum ≤ 8) (hd : decode cc pc = .ok (.invokestatic index, 3)) (hf : cells + mc ≤ R.cells ∧ slots + ms ≤ R.slots)
    (kk : ∀ (z : Int) (w1 : va_W) (H1 : Heap) (locs1 : List Loc), iR z → post z w1 → va_P D vwCl (wr ++ w1) H1 → va_D A (wr ++ w1) → va_S A s.heap H1 locs1 → W p l e R s m args below meth c H1 locs1 (cells + mc) (slots + ms) Q (F0 m (pc + 3) ls (.int (iZ z) :: rest))) : W p l e R s m args below meth c H locs cells slots Q (F0 m pc ls (As.reverse ++ rest)) := by
  have hPc : va_P D vwCl wc H := hP.sub isC (by rw [zc_fm hC])
  have hDc : va_D A wc := hD.sub isC hnC hC
  have hFc := va_free (wc := wc) hD hS hA isC hC
  refine va_calli (A1 := va_A wc H.size) (free := va_A wc H.size) (va_runS (As := As) (rest := rest) F (hM H.size) cw ⟨zPr.blind, fun U hU hW => ⟨rfl, by rw [hU], by rw [hU]; exact hPc, va_K.moved hW.alike hK, hDc.weaken (fun _ _ _ _ => trivial), hN.warm hW⟩⟩ rfl hn hsz rfl (lv_room hrm) hd hf) hS (fun q _ h => hFc q h) hFc (fun r u t H1 locs1 ht hvm hw hB hz1 hk1 hS1 => ?_)
  obtain ⟨hP1, hK1, hD1⟩ := hB
  rw [ht] at hP1
  obtain ⟨hPj, hDj⟩ := va_join (wr := wr) (w1 := u) hP hD isC isR hC hR hnR hdis hk1 hFc hP1 hD1
  obtain ⟨z, hz, rfl, hp⟩ := hw
  exact kk z u H1 locs1 hz hp hPj hDj hS1
theorem zc_Sl {D : va_G} {tys : zTys} {A : Nat → Prop} {w wc wr : va_W} {post : Int → va_W → Prop} {y : MethodName} {bytes : ByteArray} {maxL nL mc ms n index : Nat} {ret : Option FieldType} {ws Ts : List Cond} {rm : Room} {own : String} {As : List Value} 
    (F : CallFix p m c cc nL s args Ts own) (hM : Cl l D tys y ws rm mc ms (As) wc post) (cw : CallB R s args own index y bytes maxL ret ws rm mc ms n ∧ (Cond.static y).before args s = true) (hN : zN s) (hK : va_K D vwCl tys s) (hP : va_P D vwCl w H) (hD : va_D A w) (hS : va_S A s.heap H locs) (hA : ∀ q : Nat, s.heap.size ≤ q → A q) (isC isR : List Nat) (hC : isC.map (fun i => w[i]?) = wc.map some) (hR : isR.map (fun i => w[i]?) = wr.map some) (hnC : va_nd isC = true) (hnR : va_nd isR = true) (hdis : ∀ i ∈ isR, i ∉ isC)  (hn : As.length = n) (hsz : ls.size = nL) (hrm : (rest.map fun v => v.category).sum ≤ 8) (hd : decode cc pc = .ok (.invokestatic index, 3)) (hf : cells + mc ≤ R.cells ∧ slots + ms ≤ R.slots)
    (kk : ∀ (z : Int) (w1 : va_W) (H1 : Heap) (locs1 : List Loc), lR z → post z w1 → va_P D vwCl (wr ++ w1) H1 → va_D A (wr ++ w1) → va_S A s.heap H1 locs1 → W p l e R s m args below meth c H1 locs1 (cells + mc) (slots + ms) Q (F0 m (pc + 3) ls (.long (lZ z) :: rest))) : W p l e R s m args below meth c H locs cells slots Q (F0 m pc ls (As.reverse ++ rest)) := by
  have hPc : va_P D vwCl wc H := hP.sub isC (by rw [zc_fm hC])
  have hDc : va_D A wc := hD.sub isC hnC hC
  have hFc := va_free (wc := wc) hD hS hA isC hC
  refine va_calll (A1 := va_A wc H.size) (free := va_A wc H.size) (va_runS (As := As) (rest := rest) F (hM H.size) cw ⟨zPr.blind, fun U hU hW => ⟨rfl, by rw [hU], by rw [hU]; exact hPc, va_K.moved hW.alike hK, hDc.weaken (fun _ _ _ _ => trivial), hN.warm hW⟩⟩ rfl hn hsz rfl (lv_room hrm) hd hf) hS (fun q _ h => hFc q h) hFc (fun r u t H1 locs1 ht hvm hw hB hz1 hk1 hS1 => ?_)
  obtain ⟨hP1, hK1, hD1⟩ := hB
  rw [ht] at hP1
  obtain ⟨hPj, hDj⟩ := va_join (wr := wr) (w1 := u) hP hD isC isR hC hR hnR hdis hk1 hFc hP1 hD1
  obtain ⟨z, hz, rfl, hp⟩ := hw
  exact kk z u H1 locs1 hz hp hPj hDj hS1
theorem zc_SNv {D : va_G} {tys : zTys} {A : Nat → Prop} {w wc wr : va_W} {post : va_W → Prop} {y : MethodName} {bytes : ByteArray} {maxL nL mc ms n index : Nat} {ret : Option FieldType} {ws Ts : List Cond} {rm : Room} {own : String} {As : List Value} {host : String}
    (F : CallFix p m c cc nL s args Ts own) (hM : Cv l D tys y ws rm mc ms (As) wc post) (cw : va_CN R s args own index y host bytes maxL ret ws rm mc ms n ∧ (Cond.static y).before args s = true ∧ True) (hN : zN s) (hK : va_K D vwCl tys s) (hP : va_P D vwCl w H) (hD : va_D A w) (hS : va_S A s.heap H locs) (hA : ∀ q : Nat, s.heap.size ≤ q → A q) (isC isR : List Nat) (hC : isC.map (fun i => w[i]?) = wc.map some) (hR : isR.map (fun i => w[i]?) = wr.map some) (hnC : va_nd isC = true) (hnR : va_nd isR = true) (hdis : ∀ i ∈ isR, i ∉ isC)  (hn : As.length = n) (hsz : ls.size = nL) (hrm : (rest.map fun v => v.category).sum ≤ 8) (hd : decode cc pc = .ok (.invokestatic index, 3)) (hf : cells + mc ≤ R.cells ∧ slots + ms ≤ R.slots)
    (kk : ∀ (w1 : va_W) (H1 : Heap) (locs1 : List Loc), post w1 → va_P D vwCl (wr ++ w1) H1 → va_D A (wr ++ w1) → va_S A s.heap H1 locs1 → W p l e R s m args below meth c H1 locs1 (cells + mc) (slots + ms) Q (F0 m (pc + 3) ls rest)) : W p l e R s m args below meth c H locs cells slots Q (F0 m pc ls (As.reverse ++ rest)) := by
  have hPc : va_P D vwCl wc H := hP.sub isC (by rw [zc_fm hC])
  have hDc : va_D A wc := hD.sub isC hnC hC
  have hFc := va_free (wc := wc) hD hS hA isC hC
  refine va_callv (A1 := va_A wc H.size) (free := va_A wc H.size) (va_runSN (As := As) (rest := rest) F (hM H.size) cw ⟨zPr.blind, fun U hU hW => ⟨rfl, by rw [hU], by rw [hU]; exact hPc, va_K.moved hW.alike hK, hDc.weaken (fun _ _ _ _ => trivial), hN.warm hW⟩⟩ rfl hn hsz rfl (lv_room hrm) hd hf) hS (fun q _ h => hFc q h) hFc (fun u t H1 locs1 ht hvm hw hB hz1 hk1 hS1 => ?_)
  obtain ⟨hP1, hK1, hD1⟩ := hB
  rw [ht] at hP1
  obtain ⟨hPj, hDj⟩ := va_join (wr := wr) (w1 := u) hP hD isC isR hC hR hnR hdis hk1 hFc hP1 hD1
  exact kk u H1 locs1 hw hPj hDj hS1
theorem zc_SNi {D : va_G} {tys : zTys} {A : Nat → Prop} {w wc wr : va_W} {post : Int → va_W → Prop} {y : MethodName} {bytes : ByteArray} {maxL nL mc ms n index : Nat} {ret : Option FieldType} {ws Ts : List Cond} {rm : Room} {own : String} {As : List Value} {host : String}
    (F : CallFix p m c cc nL s args Ts own) (hM : Ci l D tys y ws rm mc ms (As) wc post) (cw : va_CN R s args own index y host bytes maxL ret ws rm mc ms n ∧ (Cond.static y).before args s = true ∧ True) (hN : zN s) (hK : va_K D vwCl tys s) (hP : va_P D vwCl w H) (hD : va_D A w) (hS : va_S A s.heap H locs) (hA : ∀ q : Nat, s.heap.size ≤ q → A q) (isC isR : List Nat) (hC : isC.map (fun i => w[i]?) = wc.map some) (hR : isR.map (fun i => w[i]?) = wr.map some) (hnC : va_nd isC = true) (hnR : va_nd isR = true) (hdis : ∀ i ∈ isR, i ∉ isC)  (hn : As.length = n) (hsz : ls.size = nL) (hrm : (rest.map fun v => v.category).sum ≤ 8) (hd : decode cc pc = .ok (.invokestatic index, 3)) (hf : cells + mc ≤ R.cells ∧ slots + ms ≤ R.slots)
    (kk : ∀ (z : Int) (w1 : va_W) (H1 : Heap) (locs1 : List Loc), iR z → post z w1 → va_P D vwCl (wr ++ w1) H1 → va_D A (wr ++ w1) → va_S A s.heap H1 locs1 → W p l e R s m args below meth c H1 locs1 (cells + mc) (slots + ms) Q (F0 m (pc + 3) ls (.int (iZ z) :: rest))) : W p l e R s m args below meth c H locs cells slots Q (F0 m pc ls (As.reverse ++ rest)) := by
  have hPc : va_P D vwCl wc H := hP.sub isC (by rw [zc_fm hC])
  have hDc : va_D A wc := hD.sub isC hnC hC
  have hFc := va_free (wc := wc) hD hS hA isC hC
  refine va_calli (A1 := va_A wc H.size) (free := va_A wc H.size) (va_runSN (As := As) (rest := rest) F (hM H.size) cw ⟨zPr.blind, fun U hU hW => ⟨rfl, by rw [hU], by rw [hU]; exact hPc, va_K.moved hW.alike hK, hDc.weaken (fun _ _ _ _ => trivial), hN.warm hW⟩⟩ rfl hn hsz rfl (lv_room hrm) hd hf) hS (fun q _ h => hFc q h) hFc (fun r u t H1 locs1 ht hvm hw hB hz1 hk1 hS1 => ?_)
  obtain ⟨hP1, hK1, hD1⟩ := hB
  rw [ht] at hP1
  obtain ⟨hPj, hDj⟩ := va_join (wr := wr) (w1 := u) hP hD isC isR hC hR hnR hdis hk1 hFc hP1 hD1
  obtain ⟨z, hz, rfl, hp⟩ := hw
  exact kk z u H1 locs1 hz hp hPj hDj hS1
theorem zc_SNl {D : va_G} {tys : zTys} {A : Nat → Prop} {w wc wr : va_W} {post : Int → va_W → Prop} {y : MethodName} {bytes : ByteArray} {maxL nL mc ms n index : Nat} {ret : Option FieldType} {ws Ts : List Cond} {rm : Room} {own : String} {As : List Value} {host : String}
    (F : CallFix p m c cc nL s args Ts own) (hM : Cl l D tys y ws rm mc ms (As) wc post) (cw : va_CN R s args own index y host bytes maxL ret ws rm mc ms n ∧ (Cond.static y).before args s = true ∧ True) (hN : zN s) (hK : va_K D vwCl tys s) (hP : va_P D vwCl w H) (hD : va_D A w) (hS : va_S A s.heap H locs) (hA : ∀ q : Nat, s.heap.size ≤ q → A q) (isC isR : List Nat) (hC : isC.map (fun i => w[i]?) = wc.map some) (hR : isR.map (fun i => w[i]?) = wr.map some) (hnC : va_nd isC = true) (hnR : va_nd isR = true) (hdis : ∀ i ∈ isR, i ∉ isC)  (hn : As.length = n) (hsz : ls.size = nL) (hrm : (rest.map fun v => v.category).sum ≤ 8) (hd : decode cc pc = .ok (.invokestatic index, 3)) (hf : cells + mc ≤ R.cells ∧ slots + ms ≤ R.slots)
    (kk : ∀ (z : Int) (w1 : va_W) (H1 : Heap) (locs1 : List Loc), lR z → post z w1 → va_P D vwCl (wr ++ w1) H1 → va_D A (wr ++ w1) → va_S A s.heap H1 locs1 → W p l e R s m args below meth c H1 locs1 (cells + mc) (slots + ms) Q (F0 m (pc + 3) ls (.long (lZ z) :: rest))) : W p l e R s m args below meth c H locs cells slots Q (F0 m pc ls (As.reverse ++ rest)) := by
  have hPc : va_P D vwCl wc H := hP.sub isC (by rw [zc_fm hC])
  have hDc : va_D A wc := hD.sub isC hnC hC
  have hFc := va_free (wc := wc) hD hS hA isC hC
  refine va_calll (A1 := va_A wc H.size) (free := va_A wc H.size) (va_runSN (As := As) (rest := rest) F (hM H.size) cw ⟨zPr.blind, fun U hU hW => ⟨rfl, by rw [hU], by rw [hU]; exact hPc, va_K.moved hW.alike hK, hDc.weaken (fun _ _ _ _ => trivial), hN.warm hW⟩⟩ rfl hn hsz rfl (lv_room hrm) hd hf) hS (fun q _ h => hFc q h) hFc (fun r u t H1 locs1 ht hvm hw hB hz1 hk1 hS1 => ?_)
  obtain ⟨hP1, hK1, hD1⟩ := hB
  rw [ht] at hP1
  obtain ⟨hPj, hDj⟩ := va_join (wr := wr) (w1 := u) hP hD isC isR hC hR hnR hdis hk1 hFc hP1 hD1
  obtain ⟨z, hz, rfl, hp⟩ := hw
  exact kk z u H1 locs1 hz hp hPj hDj hS1
theorem zc_Iv {D : va_G} {tys : zTys} {A : Nat → Prop} {w wc wr : va_W} {post : va_W → Prop} {y : MethodName} {bytes : ByteArray} {maxL nL mc ms n index : Nat} {ws Ts : List Cond} {rm : Room} {own : String} {As : List Value} {b : Nat}
    (F : CallFix p m c cc nL s args Ts own) (hM : Cv l D tys y ws rm mc ms (.ref b :: As) wc post) (cw : CallB R s args own index y bytes maxL none ws rm mc ms n ∧ y.name = "<init>" ∧ (Cond.instanceMethod y).before args s = true) (hN : zN s) (hK : va_K D vwCl tys s) (hP : va_P D vwCl w H) (hD : va_D A w) (hS : va_S A s.heap H locs) (hA : ∀ q : Nat, s.heap.size ≤ q → A q) (isC isR : List Nat) (hC : isC.map (fun i => w[i]?) = wc.map some) (hR : isR.map (fun i => w[i]?) = wr.map some) (hnC : va_nd isC = true) (hnR : va_nd isR = true) (hdis : ∀ i ∈ isR, i ∉ isC)  (hn : As.length = n) (hsz : ls.size = nL) (hrm : (rest.map fun v => v.category).sum ≤ 8) (hd : decode cc pc = .ok (.invokespecial index, 3)) (hf : cells + mc ≤ R.cells ∧ slots + ms ≤ R.slots)
    (kk : ∀ (w1 : va_W) (H1 : Heap) (locs1 : List Loc), post w1 → va_P D vwCl (wr ++ w1) H1 → va_D A (wr ++ w1) → va_S A s.heap H1 locs1 → W p l e R s m args below meth c H1 locs1 (cells + mc) (slots + ms) Q (F0 m (pc + 3) ls rest)) : W p l e R s m args below meth c H locs cells slots Q (F0 m pc ls (As.reverse ++ .ref b :: rest)) := by
  have hPc : va_P D vwCl wc H := hP.sub isC (by rw [zc_fm hC])
  have hDc : va_D A wc := hD.sub isC hnC hC
  have hFc := va_free (wc := wc) hD hS hA isC hC
  refine va_callv (A1 := va_A wc H.size) (free := va_A wc H.size) (va_runI (As := As) (rest := rest) F (hM H.size) cw ⟨zPr.blind, fun U hU hW => ⟨rfl, by rw [hU], by rw [hU]; exact hPc, va_K.moved hW.alike hK, hDc.weaken (fun _ _ _ _ => trivial), hN.warm hW⟩⟩ rfl hn hsz rfl (lv_room hrm) hd hf) hS (fun q _ h => hFc q h) hFc (fun u t H1 locs1 ht hvm hw hB hz1 hk1 hS1 => ?_)
  obtain ⟨hP1, hK1, hD1⟩ := hB
  rw [ht] at hP1
  obtain ⟨hPj, hDj⟩ := va_join (wr := wr) (w1 := u) hP hD isC isR hC hR hnR hdis hk1 hFc hP1 hD1
  exact kk u H1 locs1 hw hPj hDj hS1
end ZR
