/-! METHODS THAT RETURN OR THROW one of their own exceptions, their world as it was -/
/-- the texts of the exceptions -/
def zTx : List (Nat × String) := [(48, "the size is not 1 .. 6"), (66, "there is no such cell"), (69, "the denominator is 0"), (79, "there is no such row"), (86, "the cap is not 0 .. 40000"), (100, "it is not eliminated"), (106, "there is no such column"), (115, "there is no such column or part"), (117, "it is not eliminated or not solvable"), (127, "there is no such part"), (136, "there is no such cell or part")]
def zXW : List Cond := [.declares ⟨"java/lang/RuntimeException", "<init>", "(Ljava/lang/String;)V"⟩, .declares ⟨"java/lang/Exception", "<init>", "(Ljava/lang/String;)V"⟩, .declares ⟨"java/lang/Throwable", "<init>", "(Ljava/lang/String;)V"⟩, .castable "java/lang/IllegalArgumentException" "java/lang/IllegalArgumentException", .castable "java/lang/IndexOutOfBoundsException" "java/lang/IndexOutOfBoundsException", .castable "java/lang/IllegalStateException" "java/lang/IllegalStateException"]
theorem zXW_t : ∀ w ∈ zXW, w.onTables = true := by decide
/-- what a throw needs: the two statics of Throwable, the texts, words of the tables -/
def zX (A : Nat → Prop) (U : State) : Prop := vx_Zq Bundle.tN "UNASSIGNED_STACK" Bundle.steD A U U.heap ∧ vx_Zq Bundle.tN "SUPPRESSED_SENTINEL" Bundle.listD A U U.heap ∧ (∀ q ∈ zTx, ∃ sa : Nat, vk_R "LimbSolver" q.1 q.2 sa U) ∧ ∀ w ∈ zXW, va_Nw w U
def zPrX (D : va_G) (tys : zTys) (as : List Value) (w0 : va_W) (sz : Nat) : Array Value → State → Prop := va_Pc as (fun U => U.heap.size = sz ∧ va_P D vwCl w0 U.heap ∧ va_K D vwCl tys U ∧ va_D (fun _ => True) w0 ∧ zN U ∧ zX (va_A w0 sz) U)
def zXC (D : va_G) (tys : zTys) (w0 : va_W) (px : String → Prop) (A : Nat → Prop) : String → State → State → Prop := fun E st t => px E ∧ zB D tys A w0 t ∧ va_F A st t
def Xv (l : Launch) (D : va_G) (tys : zTys) (y : MethodName) (ws : List Cond) (rm : Room) (mc ms : Nat) (as : List Value) (w0 : va_W) (post : va_W → Prop) (px : String → Prop) : Prop := ∀ sz : Nat, vx_Met l y ws rm (zPrX D tys as w0 sz) (zQv D tys post (va_A w0 sz)) (zXC D tys w0 px (va_A w0 sz)) mc ms (va_A w0 sz)
def Xi (l : Launch) (D : va_G) (tys : zTys) (y : MethodName) (ws : List Cond) (rm : Room) (mc ms : Nat) (as : List Value) (w0 : va_W) (post : Int → va_W → Prop) (px : String → Prop) : Prop := ∀ sz : Nat, vx_Met l y ws rm (zPrX D tys as w0 sz) (zQi D tys post (va_A w0 sz)) (zXC D tys w0 px (va_A w0 sz)) mc ms (va_A w0 sz)
theorem zsX {l : Launch} {D : va_G} {tys : zTys} {y : MethodName} {ws ws' : List Cond} {rm : Room} {mc ms : Nat} {as : List Value} {w0 : va_W} {cc : ByteArray} {maxL : Nat} {ret : Option FieldType} {Qc : (Nat → Prop) → Array Value → State → Outcome → State → Prop} {px : String → Prop}
    (hy : plainName y.cls = true) (hw : ws = Cond.code y cc maxL ret :: ws') (hL : (lg_sl as).length ≤ maxL)
    (body : ∀ (p : Program) (e : Env) (s : State) (m : MethodId) (below : List Frame) (meth : Method) (c : Code) (ls : Array Slot) (A : Nat → Prop) (args : Array Value) (Q : State → Prop), Q = vx_MQ below (Qc A) (zXC D tys w0 px A) args s mc ms A → p.tables.exec = Jvm.exec → c.code = cc → meth.sig.returnType = ret → (∀ w ∈ ws, w.before args s = true) → s.vm.findClass y.cls = some m.cls → meth.locks = false → c.maxLocals = maxL → meth.name = y.name → zN s → zX A s → (∀ x ∈ c.exceptionTable.toList, False) → (∀ q : Nat, s.heap.size ≤ q → A q) → va_K D vwCl tys s → va_P D vwCl w0 s.heap → va_D A w0 → va_S A s.heap s.heap [] → lv_has ls maxL (lv_args 0 as) →
      W p l e rm s m args below meth c s.heap [] 0 0 Q (F0 m 0 ls [])) : ∀ sz : Nat, vx_Met l y ws rm (zPrX D tys as w0 sz) (Qc (va_A w0 sz)) (zXC D tys w0 px (va_A w0 sz)) mc ms (va_A w0 sz) := by
  intro sz
  refine vx_ofW (cc := cc) (maxL := maxL) (ret := ret) hy hw ?_
  intro p e s m args below meth c s₁ B hml hno hv
  obtain ⟨rfl, hsz, hP, hK, hD0, hN, hX⟩ := hv
  subst hsz
  have hl := lv_entry as (n := maxL) hL
  rw [lg_entry_eq]
  exact body p e s m below meth c _ _ _ _ rfl B.exec B.bytes B.returns (atoms_spec (ws := ws) B.pre) (findClass_of_methodNamed B.named) B.notSynchronized hml (name_of_methodNamed B.named B.method).1 hN hX hno (fun q h => Or.inr h) hK hP hD0.self va_S.rf hl
section ZXT
variable {p : Program} {l : Launch} {e : Env} {R : Room} {s : State} {m : MethodId} {args : Array Value} {below : List Frame} {meth : Method} {c : Code} {H : Heap} {locs : List Loc} {cells slots : Nat} {Q : State → Prop} {cc : ByteArray} {pc : Nat} {ls : Array Slot} {rest : List Value}
theorem zr_throw {D : va_G} {tys : zTys} {A : Nat → Prop} {w : va_W} {px : String → Prop} {Qc : Array Value → State → Outcome → State → Prop} {mc ms : Nat} (hQ : Q = vx_MQ below Qc (zXC D tys w px A) args s mc ms A) (hx : p.tables.exec = Jvm.exec) (hb : c.code = cc) (hst : l.stackTraces = false) {cls text : String} {ik is ic : Nat}
    (hown : s.vm.findClass "LimbSolver" = some m.cls) (hcls : Bundle.fit cls = true)
    (hk : (Cond.classLink "LimbSolver" ik cls).before args s = true) (hini : (Cond.initialized cls).before args s = true) (hX : zX A s) (htx : (is, text) ∈ zTx)
    (hg1 : ∀ w ∈ (vx_atS "LimbSolver" ic cls ["java/lang/RuntimeException", "java/lang/Exception"]).filter goodWord, w.before args s = true) (hg2 : ∀ w ∈ (vx_atS "LimbSolver" ic cls ["java/lang/RuntimeException", "java/lang/Exception"]).filter (fun w => !goodWord w), w ∈ zXW)
    (hgood : ∀ w ∈ Cond.classLink "LimbSolver" ik cls :: Cond.initialized cls :: vx_atS "LimbSolver" ic cls ["java/lang/RuntimeException", "java/lang/Exception"], vx_ot w = true)
    (hK : va_K D vwCl tys s) (hP : va_P D vwCl w H) (hD : va_D A w) (hS : va_S A s.heap H locs) (hsz : ls.size = c.maxLocals)
    (d0 : decode cc pc = .ok (.new ik, 3)) (d3 : decode cc (pc + 3) = .ok (.dup, 1)) (d4 : decode cc (pc + 4) = .ok (.ldc is, 2)) (d6 : decode cc (pc + 6) = .ok (.invokespecial ic, 3)) (d9 : decode cc (pc + 9) = .ok (.athrow, 1))
    (hno : ∀ x ∈ c.exceptionTable.toList, False) (hRf : 5 < R.frames) (hRl : (rest.map fun v => v.category).sum + 82 ≤ R.locals) (hRc : cells + 1 ≤ R.cells) (hRs : slots + 6 ≤ R.slots) (hlocks : meth.locks = false) (hpx : px cls) (hc : cells + 1 ≤ mc) (hs : slots + 6 ≤ ms) :
    W p l e R s m args below meth c H locs cells slots Q (F0 m pc ls rest) := by
  subst hQ
  obtain ⟨hU, hN, hT, hW⟩ := hX
  obtain ⟨sa, hsa⟩ := hT _ htx
  refine vx_throwS hx hb hst hown hcls (by decide) hk hini hsa (vx_hat hg1 hg2 (fun w9 h9 => va_Nw.use (zXW_t w9 h9) (hW w9 h9))) hgood hU hN hS hsz d0 d3 d4 d6 d9 (fun x h => (hno x h).elim) hRf hRl hRc hRs hlocks ?_ hS.2.2 hc hs
  intro t hal hle hsame
  refine ⟨hpx, ⟨hP.kept (fun k q hk9 => hsame _ (hP k q hk9).lt), va_K.moved hal hK, hD⟩, Nat.le_trans hS.1 hle, fun q h1 h2 => ?_⟩
  rw [hsame q (Nat.lt_of_lt_of_le h1 hS.1)]
  exact hS.2.1 q h1 h2
end ZXT
