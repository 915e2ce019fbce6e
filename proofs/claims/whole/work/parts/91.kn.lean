/-! CONSTRUCTION: a pool that grows by one cell at its end -/
/-- the pool with one more cell -/
theorem pw_grow (n : Nat) (ad : Nat → Nat) (G : Nat → va_E) (q : Nat) (x : va_E) : ∃ (ad1 : Nat → Nat) (G1 : Nat → va_E), pw n ad G ++ [(q, x)] = pw (n + 1) ad1 G1 ∧ (∀ i : Nat, i < n → ad1 i = ad i ∧ G1 i = G i) ∧ ad1 n = q ∧ G1 n = x := by
  refine ⟨fun i => if i < n then ad i else q, fun i => if i < n then G i else x, ?_, fun i hi => ⟨if_pos hi, if_pos hi⟩, if_neg (Nat.lt_irrefl n), if_neg (Nat.lt_irrefl n)⟩
  unfold pw
  rw [List.range_succ, List.map_append]
  congr 1
  · apply List.map_congr_left
    intro i hi
    have := List.mem_range.mp hi
    simp only [if_pos this]
  · simp only [List.map_cons, List.map_nil, if_neg (Nat.lt_irrefl n)]
theorem va_RA_same {U : State} {a b : ClassId} {ty : FieldType} (h1 : va_RA U a ty) (h2 : va_RA U b ty) : a = b := by
  cases ty with
  | object C =>
    obtain ⟨_, _, _, _, _, e1⟩ := h1
    obtain ⟨_, _, _, _, _, e2⟩ := h2
    exact Option.some.inj (e1.symm.trans e2)
  | _ => exact Option.some.inj (Eq.trans (Eq.symm h1) h2)
section ZKN
variable {p : Program} {l : Launch} {e : Env} {R : Room} {s : State} {m : MethodId} {args : Array Value} {below : List Frame} {meth : Method} {c : Code} {H : Heap} {locs : List Loc} {cells slots : Nat} {Q : State → Prop} {cc : ByteArray} {pc : Nat} {ls : Array Slot} {rest : List Value}
theorem zk_st {st : List Value} (st' : List Value) (h : st = st') (k : W p l e R s m args below meth c H locs cells slots Q (F0 m pc ls st')) : W p l e R s m args below meth c H locs cells slots Q (F0 m pc ls st) := h ▸ k
theorem zk_cs {c' s' : Nat} (h1 : cells = c') (h2 : slots = s') {f : JFrame} (k : W p l e R s m args below meth c H locs c' s' Q f) : W p l e R s m args below meth c H locs cells slots Q f := by subst h1; subst h2; exact k
theorem zk_obj (hx : p.tables.exec = Jvm.exec) (hb : c.code = cc) {own : String} (hown : s.vm.findClass own = some m.cls) {idx : Nat} (hlink : (Cond.methodLink own idx Lib.objectInit).before args s = true) (hinst : (Cond.instanceMethod Lib.objectInit).before args s = true) (hcode : (Cond.code Lib.objectInit ⟨#[0xb1]⟩ 1 none).before args s = true) (hsz : ls.size = c.maxLocals) {a : Nat} (hd : decode cc pc = .ok (.invokespecial idx, 3)) (hf : 1 ≤ R.frames) (hlo : (rest.map fun v => v.category).sum + 12 ≤ R.locals) (kk : W p l e R s m args below meth c H locs cells slots Q (F0 m (pc + 3) ls rest)) : W p l e R s m args below meth c H locs cells slots Q (F0 m pc ls (.ref a :: rest)) :=
  W.objInit (g := F0 m pc ls (.ref a :: rest)) hx hb hown hlink hinst hcode rfl hsz rfl hd hf (by show 2 * 0 + _ + 12 ≤ _; omega) kk
theorem zk_newI {D : va_G} {tys : zTys} {n : Nat} {ad : Nat → Nat} {G : Nat → va_E} {A : Nat → Prop} {cA : ClassId} (hx : p.tables.exec = Jvm.exec) (hb : c.code = cc) (harr : (Cond.arrayClass .int).before args s = true) (hK : va_K D vwCl tys s) (t0 : Nat) (ht : tys[t0]? = some (cA, .int)) (hP : va_P D vwCl (pw n ad G) H) (hD : va_D A (pw n ad G)) (hS : va_S A s.heap H locs) (hA : ∀ q : Nat, s.heap.size ≤ q → A q) {z : Int} (N' : Nat) (hz : z = (N' : Int)) (hN : N' ≤ 100000) (hc : cells + 1 ≤ R.cells) (hs : slots + N' ≤ R.slots) (hd : decode cc pc = .ok (.newarray .int, 2))
    (kk : ∀ (ad1 : Nat → Nat) (G1 : Nat → va_E) (H1 : Heap), (∀ i : Nat, i < n → ad1 i = ad i ∧ G1 i = G i) → G1 n = aI cA N' (fun _ => 0) → va_P D vwCl (pw (n + 1) ad1 G1) H1 → va_D A (pw (n + 1) ad1 G1) → va_S A s.heap H1 locs → W p l e R s m args below meth c H1 locs (cells + 1) (slots + N') Q (F0 m (pc + 2) ls (.ref (ad1 n) :: rest))) : W p l e R s m args below meth c H locs cells slots Q (F0 m pc ls (.int (iZ z) :: rest)) := by
  subst hz
  have hn0 : ¬ iZ (N' : Int) < 0 := by
    rw [show (0 : Int32) = iZ 0 from rfl, iZ_lt ⟨by omega, by omega⟩ (by decide)]; omega
  have hnN : (iZ (N' : Int)).toNatClampNeg = N' := iZ_clamp (by omega)
  refine va_newa (atype := .int) hx hb harr (ty := .int) rfl hK hP hD hS hA (a0 := (N', .inl (fun _ => iZ 0))) (fun cA => ?_) hn0 hnN (by show N' * 4 ≤ 536870912; omega) hc hs hd (fun q c9 H1 hK1 hP1 hD1 hS1 => ?_)
  · rfl
  · have hcc : c9 = cA := va_RA_same (hK1.2 tys.length (c9, .int) (by rw [List.getElem?_append_right (Nat.le_refl _), Nat.sub_self]; rfl)).2 (hK.2 t0 _ ht).2
    subst hcc
    obtain ⟨ad1, G1, hw, hag, hq, hG⟩ := pw_grow n ad G q (aI c9 N' (fun _ => 0))
    rw [show pw n ad G ++ [(q, Sum.inl (c9, N', Sum.inl (fun _ => iZ 0)))] = pw (n + 1) ad1 G1 from hw] at hP1 hD1
    rw [← hq]
    exact kk ad1 G1 H1 hag hG hP1 hD1 hS1
theorem zk_newJ {D : va_G} {tys : zTys} {n : Nat} {ad : Nat → Nat} {G : Nat → va_E} {A : Nat → Prop} {cA : ClassId} (hx : p.tables.exec = Jvm.exec) (hb : c.code = cc) (harr : (Cond.arrayClass .long).before args s = true) (hK : va_K D vwCl tys s) (t0 : Nat) (ht : tys[t0]? = some (cA, .long)) (hP : va_P D vwCl (pw n ad G) H) (hD : va_D A (pw n ad G)) (hS : va_S A s.heap H locs) (hA : ∀ q : Nat, s.heap.size ≤ q → A q) {z : Int} (N' : Nat) (hz : z = (N' : Int)) (hN : N' ≤ 100000) (hc : cells + 1 ≤ R.cells) (hs : slots + N' ≤ R.slots) (hd : decode cc pc = .ok (.newarray .long, 2))
    (kk : ∀ (ad1 : Nat → Nat) (G1 : Nat → va_E) (H1 : Heap), (∀ i : Nat, i < n → ad1 i = ad i ∧ G1 i = G i) → G1 n = aJ cA N' (fun _ => 0) → va_P D vwCl (pw (n + 1) ad1 G1) H1 → va_D A (pw (n + 1) ad1 G1) → va_S A s.heap H1 locs → W p l e R s m args below meth c H1 locs (cells + 1) (slots + N') Q (F0 m (pc + 2) ls (.ref (ad1 n) :: rest))) : W p l e R s m args below meth c H locs cells slots Q (F0 m pc ls (.int (iZ z) :: rest)) := by
  subst hz
  have hn0 : ¬ iZ (N' : Int) < 0 := by
    rw [show (0 : Int32) = iZ 0 from rfl, iZ_lt ⟨by omega, by omega⟩ (by decide)]; omega
  have hnN : (iZ (N' : Int)).toNatClampNeg = N' := iZ_clamp (by omega)
  refine va_newa (atype := .long) hx hb harr (ty := .long) rfl hK hP hD hS hA (a0 := (N', .inr (.inl (fun _ => lZ 0)))) (fun cA => ?_) hn0 hnN (by show N' * 8 ≤ 536870912; omega) hc hs hd (fun q c9 H1 hK1 hP1 hD1 hS1 => ?_)
  · rfl
  · have hcc : c9 = cA := va_RA_same (hK1.2 tys.length (c9, .long) (by rw [List.getElem?_append_right (Nat.le_refl _), Nat.sub_self]; rfl)).2 (hK.2 t0 _ ht).2
    subst hcc
    obtain ⟨ad1, G1, hw, hag, hq, hG⟩ := pw_grow n ad G q (aJ c9 N' (fun _ => 0))
    rw [show pw n ad G ++ [(q, Sum.inl (c9, N', Sum.inr (Sum.inl (fun _ => lZ 0))))] = pw (n + 1) ad1 G1 from hw] at hP1 hD1
    rw [← hq]
    exact kk ad1 G1 H1 hag hG hP1 hD1 hS1
theorem zk_newR {D : va_G} {tys : zTys} {n : Nat} {ad : Nat → Nat} {G : Nat → va_E} {A : Nat → Prop} {cA : ClassId} {own C : String} {index : Nat} (hx : p.tables.exec = Jvm.exec) (hb : c.code = cc) (hown : s.vm.findClass own = some m.cls) (hcl : (Cond.classLink own index C).before args s = true) (hao : va_AO C s) (hK : va_K D vwCl tys s) (t0 : Nat) (ht : tys[t0]? = some (cA, .object C)) (hP : va_P D vwCl (pw n ad G) H) (hD : va_D A (pw n ad G)) (hS : va_S A s.heap H locs) (hA : ∀ q : Nat, s.heap.size ≤ q → A q) {z : Int} (N' : Nat) (hz : z = (N' : Int)) (hN : N' ≤ 100000) (hc : cells + 1 ≤ R.cells) (hs : slots + N' ≤ R.slots) (hd : decode cc pc = .ok (.anewarray index, 3))
    (kk : ∀ (ad1 : Nat → Nat) (G1 : Nat → va_E) (H1 : Heap), (∀ i : Nat, i < n → ad1 i = ad i ∧ G1 i = G i) → G1 n = aR cA N' (fun _ => none) → va_P D vwCl (pw (n + 1) ad1 G1) H1 → va_D A (pw (n + 1) ad1 G1) → va_S A s.heap H1 locs → W p l e R s m args below meth c H1 locs (cells + 1) (slots + N') Q (F0 m (pc + 3) ls (.ref (ad1 n) :: rest))) : W p l e R s m args below meth c H locs cells slots Q (F0 m pc ls (.int (iZ z) :: rest)) := by
  subst hz
  have hn0 : ¬ iZ (N' : Int) < 0 := by
    rw [show (0 : Int32) = iZ 0 from rfl, iZ_lt ⟨by omega, by omega⟩ (by decide)]; omega
  have hnN : (iZ (N' : Int)).toNatClampNeg = N' := iZ_clamp (by omega)
  refine va_newq hx hb hown hcl hao hK hP hD hS hA hn0 hnN (by omega) hc hs hd (fun q c9 H1 hK1 hP1 hD1 hS1 => ?_)
  have hcc : c9 = cA := va_RA_same (hK1.2 tys.length (c9, .object C) (by rw [List.getElem?_append_right (Nat.le_refl _), Nat.sub_self]; rfl)).2 (hK.2 t0 _ ht).2
  subst hcc
  obtain ⟨ad1, G1, hw, hag, hq, hG⟩ := pw_grow n ad G q (aR c9 N' (fun _ => none))
  rw [show pw n ad G ++ [(q, Sum.inl (c9, N', Sum.inr (Sum.inr (Sum.inr (Sum.inr (fun _ => none))))))] = pw (n + 1) ad1 G1 from hw] at hP1 hD1
  rw [← hq]
  exact kk ad1 G1 H1 hag hG hP1 hD1 hS1
theorem zk_new {D : va_G} {tys : zTys} {n : Nat} {ad : Nat → Nat} {G : Nat → va_E} {A : Nat → Prop} {own C : String} {T : u_T} {N ci index : Nat} {Ts : List Cond} (hx : p.tables.exec = Jvm.exec) (hb : c.code = cc) (hts : ∀ w ∈ Ts, w.before args s = true) (hin : ∀ w ∈ u_ws C T N, w ∈ Ts) (ty : Nat → FieldType) (hty : ∀ k, k < N → parseFieldDescriptor (T k).2.2.1 = some (ty k)) (hown : s.vm.findClass own = some m.cls) (hcl : (Cond.classLink own index C).before args s = true) (hinst : (Cond.instantiable C N).before args s = true) (hini : (Cond.initialized C).before args s = true)
    (hK : va_K D vwCl tys s) (hP : va_P D vwCl (pw n ad G) H) (hD : va_D A (pw n ad G)) (hS : va_S A s.heap H locs) (hA : ∀ q : Nat, s.heap.size ≤ q → A q) (hc : vwCl[ci]? = some (C, T, N)) (fs : List Value) (hfs : ∀ j, j < N → defaultValue (ty j) = vp_V fs j) (hcells : cells + 1 ≤ R.cells) (hslots : slots + N ≤ R.slots) (hdg : decode cc pc = .ok (.new index, 3))
    (kk : ∀ (ad1 : Nat → Nat) (G1 : Nat → va_E) (H1 : Heap), (∀ i : Nat, i < n → ad1 i = ad i ∧ G1 i = G i) → G1 n = .inr (ci, fs) → va_P D vwCl (pw (n + 1) ad1 G1) H1 → va_D A (pw (n + 1) ad1 G1) → va_S A s.heap H1 locs → W p l e R s m args below meth c H1 locs (cells + 1) (slots + N) Q (F0 m (pc + 3) ls (.ref (ad1 n) :: rest))) : W p l e R s m args below meth c H locs cells slots Q (F0 m pc ls rest) := by
  refine va_new hx hb hts hin ty hty hown hcl hinst hini hK hP hD hS hA hc hfs hcells hslots hdg (fun q H1 hP1 hD1 hS1 => ?_)
  obtain ⟨ad1, G1, hw, hag, hq, hG⟩ := pw_grow n ad G q (.inr (ci, fs))
  rw [hw] at hP1 hD1
  rw [← hq]
  exact kk ad1 G1 H1 hag hG hP1 hD1 hS1
end ZKN
/-- what a constructor leaves: the cells below as they were, its own object k with m cells -/
def kPo (k m : Nat) (ad : Nat → Nat) (G : Nat → va_E) (K : (Nat → Nat) → (Nat → va_E) → Prop) : va_W → Prop := fun w1 => ∃ (ad1 : Nat → Nat) (G1 : Nat → va_E), w1 = pw (k + m) ad1 G1 ∧ (∀ i : Nat, i < k → ad1 i = ad i ∧ G1 i = G i) ∧ ad1 k = ad k ∧ K ad1 G1
/-- contracts of constructors that make arrays of references -/
def zAO (U : State) : Prop := va_AO "LimbSolver$Entry" U ∧ va_AO "LimbSolver$Fraction" U ∧ va_AO "LimbSolver$Row" U
theorem zAO.moved {u U : State} (hvm : u.vm.Alike U.vm) (h : zAO u) : zAO U := ⟨h.1.moved hvm, h.2.1.moved hvm, h.2.2.moved hvm⟩
def zPrK (D : va_G) (tys : zTys) (as : List Value) (w0 : va_W) (sz : Nat) : Array Value → State → Prop := va_Pc as (fun U => U.heap.size = sz ∧ va_P D vwCl w0 U.heap ∧ va_K D vwCl tys U ∧ va_D (fun _ => True) w0 ∧ zN U ∧ zAO U)
theorem zPrK.blind {D : va_G} {tys : zTys} {as : List Value} {w0 : va_W} {sz : Nat} : FrameBlind (zPrK D tys as w0 sz) := fun a U g mk q => by
  obtain ⟨q0, q1, qP, qK, qD, qN, qA⟩ := q
  exact ⟨q0, q1, qP, va_K.moved (u := U) (U := U.calling g mk a) (Vm.Alike.refl U.vm) qK, qD, zN.same (s := U) (U := U.calling g mk a) rfl qN, zAO.moved (u := U) (U := U.calling g mk a) (Vm.Alike.refl U.vm) qA⟩
def Kv (l : Launch) (D : va_G) (tys : zTys) (y : MethodName) (ws : List Cond) (rm : Room) (mc ms : Nat) (as : List Value) (w0 : va_W) (post : va_W → Prop) : Prop := ∀ sz : Nat, Met l y ws rm (zPrK D tys as w0 sz) (zQv D tys post (va_A w0 sz)) mc ms (va_A w0 sz)
theorem zsK {l : Launch} {D : va_G} {tys : zTys} {y : MethodName} {ws ws' : List Cond} {rm : Room} {mc ms : Nat} {as : List Value} {w0 : va_W} {cc : ByteArray} {maxL : Nat} {ret : Option FieldType} {Qc : (Nat → Prop) → Array Value → State → Outcome → State → Prop}
    (hy : plainName y.cls = true) (hw : ws = Cond.code y cc maxL ret :: ws') (hL : (lg_sl as).length ≤ maxL)
    (body : ∀ (p : Program) (e : Env) (s : State) (m : MethodId) (below : List Frame) (meth : Method) (c : Code) (ls : Array Slot) (A : Nat → Prop) (args : Array Value) (Q : State → Prop), Q = MQ below (Qc A) args s mc ms A → p.tables.exec = Jvm.exec → c.code = cc → meth.sig.returnType = ret → (∀ w ∈ ws, w.before args s = true) → s.vm.findClass y.cls = some m.cls → meth.locks = false → c.maxLocals = maxL → meth.name = y.name → zN s → zAO s → (∀ q : Nat, s.heap.size ≤ q → A q) → va_K D vwCl tys s → va_P D vwCl w0 s.heap → va_D A w0 → va_S A s.heap s.heap [] → lv_has ls maxL (lv_args 0 as) →
      W p l e rm s m args below meth c s.heap [] 0 0 Q (F0 m 0 ls [])) : ∀ sz : Nat, Met l y ws rm (zPrK D tys as w0 sz) (Qc (va_A w0 sz)) mc ms (va_A w0 sz) := by
  intro sz
  refine Met.ofW (cc := cc) (maxL := maxL) (ret := ret) hy hw ?_
  intro p e s m args below meth c s₁ B hml hv
  obtain ⟨rfl, hsz, hP, hK, hD0, hN, hAO⟩ := hv
  subst hsz
  have hl := lv_entry as (n := maxL) hL
  rw [lg_entry_eq]
  exact body p e s m below meth c _ _ _ _ rfl B.exec B.bytes B.returns (atoms_spec (ws := ws) B.pre) (findClass_of_methodNamed B.named) B.notSynchronized hml (name_of_methodNamed B.named B.method).1 hN hAO (fun q h => Or.inr h) hK hP hD0.self va_S.rf hl
theorem Kv.ofC {l : Launch} {D : va_G} {tys : zTys} {y : MethodName} {ws : List Cond} {rm : Room} {mc ms : Nat} {as : List Value} {w0 : va_W} {post : va_W → Prop} (h : Cv l D tys y ws rm mc ms as w0 post) : Kv l D tys y ws rm mc ms as w0 post := by
  intro sz p e ha hc hk s m args below hf happ hP hK
  obtain ⟨h0, h1, h2, h3, h4, h5, _⟩ := hP
  exact h sz p e ha hc hk s m args below hf happ ⟨h0, h1, h2, h3, h4, h5⟩ hK
section ZKC
variable {p : Program} {l : Launch} {e : Env} {R : Room} {s : State} {m : MethodId} {args : Array Value} {below : List Frame} {meth : Method} {c : Code} {H : Heap} {locs : List Loc} {cells slots : Nat} {Q : State → Prop} {cc : ByteArray} {pc : Nat} {ls : Array Slot} {rest : List Value}
theorem zc_Kv {D : va_G} {tys : zTys} {A : Nat → Prop} {n0 k0 m0 : Nat} {ad : Nat → Nat} {G : Nat → va_E} {K : (Nat → Nat) → (Nat → va_E) → Prop} {y : MethodName} {bytes : ByteArray} {maxL nL mc ms n index : Nat} {ws Ts : List Cond} {rm : Room} {own : String} {As : List Value} {b : Nat}
    (F : CallFix p m c cc nL s args Ts own) (hM : Kv l D tys y ws rm mc ms (.ref b :: As) (pw n0 ad G) (kPo k0 m0 ad G K)) (cw : CallB R s args own index y bytes maxL none ws rm mc ms n ∧ y.name = "<init>" ∧ (Cond.instanceMethod y).before args s = true) (hN : zN s) (hAO : zAO s) (hK : va_K D vwCl tys s) (hP : va_P D vwCl (pw n0 ad G) H) (hD : va_D A (pw n0 ad G)) (hS : va_S A s.heap H locs) (hA : ∀ q : Nat, s.heap.size ≤ q → A q) (hn : As.length = n) (hsz : ls.size = nL) (hrm : (rest.map fun v => v.category).sum ≤ 8) (hd : decode cc pc = .ok (.invokespecial index, 3)) (hf : cells + mc ≤ R.cells ∧ slots + ms ≤ R.slots)
    (kk : ∀ (ad1 : Nat → Nat) (G1 : Nat → va_E) (H1 : Heap) (locs1 : List Loc), (∀ i : Nat, i < k0 → ad1 i = ad i ∧ G1 i = G i) → ad1 k0 = ad k0 → K ad1 G1 → va_P D vwCl (pw (k0 + m0) ad1 G1) H1 → va_D A (pw (k0 + m0) ad1 G1) → va_S A s.heap H1 locs1 → W p l e R s m args below meth c H1 locs1 (cells + mc) (slots + ms) Q (F0 m (pc + 3) ls rest)) : W p l e R s m args below meth c H locs cells slots Q (F0 m pc ls (As.reverse ++ .ref b :: rest)) := by
  have hC : (List.range n0).map (fun i => (pw n0 ad G)[i]?) = (pw n0 ad G).map some := pw_all _ _ _
  have hFc := va_free (wc := pw n0 ad G) hD hS hA (List.range n0) hC
  refine va_callv (A1 := va_A (pw n0 ad G) H.size) (free := va_A (pw n0 ad G) H.size) (va_runI (As := As) (rest := rest) F (hM H.size) cw ⟨zPrK.blind, fun U hU hW => ⟨rfl, by rw [hU], by rw [hU]; exact hP, va_K.moved hW.alike hK, hD.weaken (fun _ _ _ _ => trivial), hN.warm hW, hAO.moved hW.alike⟩⟩ rfl hn hsz rfl (lv_room hrm) hd hf) hS (fun q _ h => hFc q h) hFc (fun u t H1 locs1 ht hvm hw hB hz1 hk1 hS1 => ?_)
  obtain ⟨hP1, hK1, hD1⟩ := hB
  rw [ht] at hP1
  obtain ⟨hPj, hDj⟩ := va_join (wr := []) (w1 := u) hP hD (List.range n0) [] hC rfl rfl (fun _ h9 => nomatch h9) hk1 hFc hP1 hD1
  obtain ⟨ad1, G1, rfl, h1, h2, h3⟩ := hw
  exact kk ad1 G1 H1 locs1 h1 h2 h3 hPj hDj hS1
end ZKC
/-! the shapes of what is made, by the number of the object -/
def kAg (lo hi : Nat) (ad : Nat → Nat) (G : Nat → va_E) (ad' : Nat → Nat) (G' : Nat → va_E) : Prop := ∀ i : Nat, lo ≤ i → i < hi → ad' i = ad i ∧ G' i = G i
section KSH
variable {cI cJ cE cF cR : ClassId} {ad ad' : Nat → Nat} {G G' : Nat → va_E} {k room : Nat}
theorem pHas.mv (h : pHas cI ad G k room) (ha : kAg k (k + 2) ad G ad' G') : pHas cI ad' G' k room := by
  obtain ⟨c, g, e1, e2⟩ := h
  exact ⟨c, g, by rw [(ha k (by omega) (by omega)).2, e1, (ha (k + 1) (by omega) (by omega)).1], by rw [(ha (k + 1) (by omega) (by omega)).2, e2]⟩
theorem pWh.mv {v : Int} (h : pWh cI ad G k room v) (ha : kAg k (k + 2) ad G ad' G') : pWh cI ad' G' k room v := by
  obtain ⟨n, g, e1, e2, e3⟩ := h
  exact ⟨n, g, by rw [(ha k (by omega) (by omega)).2, e1, (ha (k + 1) (by omega) (by omega)).1], by rw [(ha (k + 1) (by omega) (by omega)).2, e2], e3⟩
theorem pEh.mv (h : pEh cI ad G k room) (ha : kAg k (k + 3) ad G ad' G') : pEh cI ad' G' k room := by
  obtain ⟨⟨s, e1⟩, e2⟩ := h
  exact ⟨⟨s, by rw [(ha k (by omega) (by omega)).2, e1, (ha (k + 1) (by omega) (by omega)).1]⟩, e2.mv (fun i a b => ha i (by omega) (by omega))⟩
theorem pEn.mv {z : Int} (h : pEn cI ad G k room z) (ha : kAg k (k + 3) ad G ad' G') : pEn cI ad' G' k room z := by
  obtain ⟨e1, e2⟩ := h
  exact ⟨by rw [(ha k (by omega) (by omega)).2, e1, (ha (k + 1) (by omega) (by omega)).1], e2.mv (fun i a b => ha i (by omega) (by omega))⟩
theorem pFh.mv (h : pFh cI ad G k room) (ha : kAg k (k + 5) ad G ad' G') : pFh cI ad' G' k room := by
  obtain ⟨⟨s, e1⟩, e2, e3⟩ := h
  exact ⟨⟨s, by rw [(ha k (by omega) (by omega)).2, e1, (ha (k + 1) (by omega) (by omega)).1, (ha (k + 3) (by omega) (by omega)).1]⟩, e2.mv (fun i a b => ha i (by omega) (by omega)), e3.mv (fun i a b => ha i (by omega) (by omega))⟩
def kDv (cI : ClassId) (ad : Nat → Nat) (G : Nat → va_E) (k : Nat) : Prop := G k = .inr (1, [.ref (ad (k + 1)), .ref (ad (k + 2))]) ∧ (∃ u : Nat → Int, G (k + 1) = aI cI 97 u) ∧ ∃ u : Nat → Int, G (k + 2) = aI cI 97 u
theorem kDv.mv (h : kDv cI ad G k) (ha : kAg k (k + 3) ad G ad' G') : kDv cI ad' G' k := by
  obtain ⟨e1, ⟨u, e2⟩, v, e3⟩ := h
  exact ⟨by rw [(ha k (by omega) (by omega)).2, e1, (ha (k + 1) (by omega) (by omega)).1, (ha (k + 2) (by omega) (by omega)).1], ⟨u, by rw [(ha (k + 1) (by omega) (by omega)).2, e2]⟩, v, by rw [(ha (k + 2) (by omega) (by omega)).2, e3]⟩
/-- Euclid k, its division d -/
def kEu (cI : ClassId) (ad : Nat → Nat) (G : Nat → va_E) (d k : Nat) : Prop := (∃ x1 x2 x3 x4 : Int, G k = .inr (5, [.ref (ad d), .ref (ad (k + 1)), .ref (ad (k + 3)), .ref (ad (k + 5)), .ref (ad (k + 7)), .long (lZ x1), .long (lZ x2), .long (lZ x3), .long (lZ x4)])) ∧ pHas cI ad G (k + 1) 96 ∧ pHas cI ad G (k + 3) 96 ∧ pHas cI ad G (k + 5) 96 ∧ pHas cI ad G (k + 7) 96
theorem kEu.mv {d : Nat} (h : kEu cI ad G d k) (hd : ad' d = ad d) (ha : kAg k (k + 9) ad G ad' G') : kEu cI ad' G' d k := by
  obtain ⟨⟨x1, x2, x3, x4, e1⟩, e2, e3, e4, e5⟩ := h
  exact ⟨⟨x1, x2, x3, x4, by rw [(ha k (by omega) (by omega)).2, e1, hd, (ha (k + 1) (by omega) (by omega)).1, (ha (k + 3) (by omega) (by omega)).1, (ha (k + 5) (by omega) (by omega)).1, (ha (k + 7) (by omega) (by omega)).1]⟩, e2.mv (fun i a b => ha i (by omega) (by omega)), e3.mv (fun i a b => ha i (by omega) (by omega)), e4.mv (fun i a b => ha i (by omega) (by omega)), e5.mv (fun i a b => ha i (by omega) (by omega))⟩
def kAr (cI : ClassId) (ad : Nat → Nat) (G : Nat → va_E) (k : Nat) : Prop := G k = .inr (0, [.ref (ad (k + 1)), .ref (ad (k + 4)), .ref (ad (k + 13)), .ref (ad (k + 15)), .ref (ad (k + 17)), .ref (ad (k + 19)), .ref (ad (k + 21)), .ref (ad (k + 23)), .ref (ad (k + 25))]) ∧ kDv cI ad G (k + 1) ∧ kEu cI ad G (k + 1) (k + 4) ∧ pHas cI ad G (k + 13) 96 ∧ pHas cI ad G (k + 15) 96 ∧ pHas cI ad G (k + 17) 96 ∧ pHas cI ad G (k + 19) 96 ∧ pHas cI ad G (k + 21) 96 ∧ pHas cI ad G (k + 23) 96 ∧ pHas cI ad G (k + 25) 96
theorem kAr.mv (h : kAr cI ad G k) (ha : kAg k (k + 27) ad G ad' G') : kAr cI ad' G' k := by
  obtain ⟨e0, e1, e2, e3, e4, e5, e6, e7, e8, e9⟩ := h
  exact ⟨by rw [(ha k (by omega) (by omega)).2, e0, (ha (k + 1) (by omega) (by omega)).1, (ha (k + 4) (by omega) (by omega)).1, (ha (k + 13) (by omega) (by omega)).1, (ha (k + 15) (by omega) (by omega)).1, (ha (k + 17) (by omega) (by omega)).1, (ha (k + 19) (by omega) (by omega)).1, (ha (k + 21) (by omega) (by omega)).1, (ha (k + 23) (by omega) (by omega)).1, (ha (k + 25) (by omega) (by omega)).1], e1.mv (fun i a b => ha i (by omega) (by omega)), e2.mv (ha (k + 1) (by omega) (by omega)).1 (fun i a b => ha i (by omega) (by omega)), e3.mv (fun i a b => ha i (by omega) (by omega)), e4.mv (fun i a b => ha i (by omega) (by omega)), e5.mv (fun i a b => ha i (by omega) (by omega)), e6.mv (fun i a b => ha i (by omega) (by omega)), e7.mv (fun i a b => ha i (by omega) (by omega)), e8.mv (fun i a b => ha i (by omega) (by omega)), e9.mv (fun i a b => ha i (by omega) (by omega))⟩
/-- an array of references, its first n places filled -/
def kRf (cX : ClassId) (ad : Nat → Nat) (G : Nat → va_E) (k N n base step : Nat) : Prop := ∃ f : Nat → Option Nat, G k = aR cX N f ∧ ∀ j : Nat, j < n → f j = some (ad (base + step * j))
theorem kRf.mv {cX : ClassId} {N n base step : Nat} (h : kRf cX ad G k N n base step) (hk : G' k = G k) (ha : ∀ j : Nat, j < n → ad' (base + step * j) = ad (base + step * j)) : kRf cX ad' G' k N n base step := by
  obtain ⟨f, e1, e2⟩ := h
  exact ⟨f, hk.trans e1, fun j hj => by rw [e2 j hj, ha j hj]⟩
def kRo (cI cE cF : ClassId) (ad : Nat → Nat) (G : Nat → va_E) (k : Nat) : Prop := (∃ pc : Int, G k = .inr (8, [.ref (ad (k + 1)), .ref (ad (k + 2)), .ref (ad (k + 59)), .int (iZ pc)])) ∧ kRf cE ad G (k + 1) 7 7 (k + 3) 8 ∧ kRf cF ad G (k + 2) 7 7 (k + 6) 8 ∧ (∀ j : Nat, j < 7 → pEh cI ad G (k + 3 + 8 * j) 46 ∧ pFh cI ad G (k + 6 + 8 * j) 80) ∧ pHas cI ad G (k + 59) 46
theorem kRo.mv (h : kRo cI cE cF ad G k) (ha : kAg k (k + 61) ad G ad' G') : kRo cI cE cF ad' G' k := by
  obtain ⟨⟨pc, e0⟩, e1, e2, e3, e4⟩ := h
  exact ⟨⟨pc, by rw [(ha k (by omega) (by omega)).2, e0, (ha (k + 1) (by omega) (by omega)).1, (ha (k + 2) (by omega) (by omega)).1, (ha (k + 59) (by omega) (by omega)).1]⟩, e1.mv (ha (k + 1) (by omega) (by omega)).2 (fun j hj => (ha _ (by omega) (by omega)).1), e2.mv (ha (k + 2) (by omega) (by omega)).2 (fun j hj => (ha _ (by omega) (by omega)).1), fun j hj => ⟨(e3 j hj).1.mv (fun i a b => ha i (by omega) (by omega)), (e3 j hj).2.mv (fun i a b => ha i (by omega) (by omega))⟩, e4.mv (fun i a b => ha i (by omega) (by omega))⟩
def kEl (cI cE cF cR : ClassId) (ad : Nat → Nat) (G : Nat → va_E) (k : Nat) : Prop := (∃ n0 tn pv ml sv : Int, G k = .inr (2, [.ref (ad (k + 1)), .ref (ad (k + 28)), .ref (ad (k + 29)), .ref (ad (k + 30)), .ref (ad (k + 449)), .ref (ad (k + 454)), .ref (ad (k + 459)), .ref (ad (k + 461)), .ref (ad (k + 463)), .ref (ad (k + 465)), .ref (ad (k + 31)), .ref (ad (k + 465)), .int (iZ n0), .int (iZ tn), .int (iZ pv), .int (iZ ml), .int (iZ sv)])) ∧ kAr cI ad G (k + 1) ∧ kRf cR ad G (k + 28) 6 6 (k + 32) 66 ∧ kRf cF ad G (k + 29) 6 6 (k + 93) 66 ∧ (∃ PR : Nat → Int, G (k + 30) = aI cI 6 PR) ∧ kRf cE ad G (k + 31) 7 7 (k + 428) 3 ∧ (∀ q : Nat, q < 6 → kRo cI cE cF ad G (k + 32 + 66 * q) ∧ pFh cI ad G (k + 93 + 66 * q) 46) ∧ (∀ j : Nat, j < 7 → pEh cI ad G (k + 428 + 3 * j) 46) ∧ pFh cI ad G (k + 449) 46 ∧ pFh cI ad G (k + 454) 46 ∧ pHas cI ad G (k + 459) 96 ∧ pHas cI ad G (k + 461) 96 ∧ pHas cI ad G (k + 463) 96 ∧ pEn cI ad G (k + 465) 1 1
theorem kEl.mv (h : kEl cI cE cF cR ad G k) (ha : kAg k (k + 468) ad G ad' G') : kEl cI cE cF cR ad' G' k := by
  obtain ⟨⟨n0, tn, pv, ml, sv, e0⟩, e1, e2, e3, ⟨PR, e4⟩, e5, e6, e7, e8, e9, e10, e11, e12, e13⟩ := h
  exact ⟨⟨n0, tn, pv, ml, sv, by rw [(ha k (by omega) (by omega)).2, e0, (ha (k + 1) (by omega) (by omega)).1, (ha (k + 28) (by omega) (by omega)).1, (ha (k + 29) (by omega) (by omega)).1, (ha (k + 30) (by omega) (by omega)).1, (ha (k + 449) (by omega) (by omega)).1, (ha (k + 454) (by omega) (by omega)).1, (ha (k + 459) (by omega) (by omega)).1, (ha (k + 461) (by omega) (by omega)).1, (ha (k + 463) (by omega) (by omega)).1, (ha (k + 465) (by omega) (by omega)).1, (ha (k + 31) (by omega) (by omega)).1]⟩,
    e1.mv (fun i a b => ha i (by omega) (by omega)), e2.mv (ha (k + 28) (by omega) (by omega)).2 (fun j hj => (ha _ (by omega) (by omega)).1), e3.mv (ha (k + 29) (by omega) (by omega)).2 (fun j hj => (ha _ (by omega) (by omega)).1), ⟨PR, by rw [(ha (k + 30) (by omega) (by omega)).2, e4]⟩, e5.mv (ha (k + 31) (by omega) (by omega)).2 (fun j hj => (ha _ (by omega) (by omega)).1), fun q hq => ⟨(e6 q hq).1.mv (fun i a b => ha i (by omega) (by omega)), (e6 q hq).2.mv (fun i a b => ha i (by omega) (by omega))⟩, fun j hj => (e7 j hj).mv (fun i a b => ha i (by omega) (by omega)), e8.mv (fun i a b => ha i (by omega) (by omega)), e9.mv (fun i a b => ha i (by omega) (by omega)), e10.mv (fun i a b => ha i (by omega) (by omega)), e11.mv (fun i a b => ha i (by omega) (by omega)), e12.mv (fun i a b => ha i (by omega) (by omega)), e13.mv (fun i a b => ha i (by omega) (by omega))⟩
def kEq (cJ : ClassId) (ad : Nat → Nat) (G : Nat → va_E) (k : Nat) : Prop := G k = .inr (4, [.ref (ad (k + 1)), .ref (ad (k + 2)), .int (iZ 1)]) ∧ ∃ a b : Nat → Int, G (k + 1) = aJ cJ 42 a ∧ G (k + 2) = aJ cJ 42 b ∧ ∀ j : Nat, j < 42 → a j = 0 ∧ b j = 1
theorem kEq.mv (h : kEq cJ ad G k) (ha : kAg k (k + 3) ad G ad' G') : kEq cJ ad' G' k := by
  obtain ⟨e0, a, b, e1, e2, e3⟩ := h
  exact ⟨by rw [(ha k (by omega) (by omega)).2, e0, (ha (k + 1) (by omega) (by omega)).1, (ha (k + 2) (by omega) (by omega)).1], a, b, by rw [(ha (k + 1) (by omega) (by omega)).2, e1], by rw [(ha (k + 2) (by omega) (by omega)).2, e2], e3⟩
def kRs (cI : ClassId) (ad : Nat → Nat) (G : Nat → va_E) (k : Nat) : Prop := G k = .inr (7, [.ref (ad (k + 1))]) ∧ ∃ Z : Nat → Int, G (k + 1) = aI cI 36 Z
theorem kRs.mv (h : kRs cI ad G k) (ha : kAg k (k + 2) ad G ad' G') : kRs cI ad' G' k := by
  obtain ⟨e0, Z, e1⟩ := h
  exact ⟨by rw [(ha k (by omega) (by omega)).2, e0, (ha (k + 1) (by omega) (by omega)).1], Z, by rw [(ha (k + 1) (by omega) (by omega)).2, e1]⟩
/-- the solver k as it is made -/
def kSo (cI cJ cE cF cR : ClassId) (ad : Nat → Nat) (G : Nat → va_E) (k : Nat) : Prop := G k = .inr (10, [.ref (ad (k + 1)), .ref (ad (k + 4)), .ref (ad (k + 472)), .ref (ad (k + 474)), .int (iZ 0), .int (iZ 0)]) ∧ kEq cJ ad G (k + 1) ∧ kEl cI cE cF cR ad G (k + 4) ∧ kRs cI ad G (k + 472) ∧ pFh cI ad G (k + 474) 2
end KSH
