theorem lZ_tdiv {a b : Int} (ha : lR a) (hb : lR b) (b0 : 0 < b) : lZ a / lZ b = lZ (a.tdiv b) := by
  apply Int64.toInt_inj.mp
  have hne : lZ b ≠ -1 := fun q => by
    have : (lZ b).toInt = (-1 : Int64).toInt := by rw [q]
    rw [lZ_toInt hb] at this
    have : b = -1 := this
    omega
  have h1 := ha.1
  have h2 := ha.2
  have hk : lR (a.tdiv b) := by
    rcases (show 0 ≤ a ∨ a < 0 by omega) with w | w
    · rw [Int.tdiv_eq_ediv_of_nonneg w]
      have q1 : 0 ≤ a / b := Int.ediv_nonneg w (Int.le_of_lt b0)
      have q2 : a / b ≤ a := Int.ediv_le_self b w
      exact ⟨by omega, by omega⟩
    · have e : a.tdiv b = -((-a).tdiv b) := by rw [Int.neg_tdiv, Int.neg_neg]
      rw [e, Int.tdiv_eq_ediv_of_nonneg (by omega)]
      have q1 : 0 ≤ (-a) / b := Int.ediv_nonneg (by omega) (Int.le_of_lt b0)
      have q2 : (-a) / b ≤ -a := Int.ediv_le_self b (by omega)
      exact ⟨by omega, by omega⟩
  rw [Int64.toInt_div_of_ne_right _ _ hne, lZ_toInt ha, lZ_toInt hb, lZ_toInt hk]
theorem lZ_xor {a b : Int} (ha : lR a) (hb : lR b) : ∃ z : Int, lR z ∧ (z < 0 ↔ ¬ (a < 0 ↔ b < 0)) ∧ lZ a ^^^ lZ b = lZ z := by
  obtain ⟨z, hz, e⟩ := lZ_of (lZ a ^^^ lZ b)
  refine ⟨z, hz, ?_, e⟩
  have h0 : (lZ a ^^^ lZ b).toInt = z := by rw [e]; exact lZ_toInt hz
  have hm : ∀ x : Int64, x.toBitVec.msb = decide (x.toInt < 0) := fun x => BitVec.msb_eq_toInt
  have h1 := hm (lZ a ^^^ lZ b)
  rw [Int64.toBitVec_xor, BitVec.msb_xor, hm, hm, h0, lZ_toInt ha, lZ_toInt hb] at h1
  by_cases qa : a < 0 <;> by_cases qb : b < 0 <;> by_cases qz : z < 0 <;> simp [qa, qb, qz] at h1 ⊢
section ZR9
variable {p : Program} {l : Launch} {e : Env} {R : Room} {s : State} {m : MethodId} {args : Array Value} {below : List Frame} {meth : Method} {c : Code} {H : Heap} {locs : List Loc} {cells slots : Nat} {Q : State → Prop} {cc : ByteArray} {pc : Nat} {ls : Array Slot} {rest : List Value}
theorem zr_lremT (hx : p.tables.exec = Jvm.exec) (hb : c.code = cc) {x y : Int} (rx : lR x) (ry : lR y) (y0 : 0 < y) (hd : decode cc pc = .ok (.lrem, 1)) (k : W p l e R s m args below meth c H locs cells slots Q (F0 m (pc + 1) ls (.long (lZ (x.tmod y)) :: rest))) : W p l e R s m args below meth c H locs cells slots Q (F0 m pc ls (.long (lZ y) :: .long (lZ x) :: rest)) := lv_lrem hx hb hd (fun q => by rw [show (0 : Int64) = lZ 0 from rfl, lZ_eq ry (by decide)] at q; omega) (by rw [lZ_tdiv rx ry y0, lZ_mul, lZ_sub, Int.mul_comm, ← Int.tmod_def]; exact k)
theorem zr_lxor (hx : p.tables.exec = Jvm.exec) (hb : c.code = cc) {x y : Int} (rx : lR x) (ry : lR y) (hd : decode cc pc = .ok (.lxor, 1)) (k : ∀ z : Int, lR z → (z < 0 ↔ ¬ (x < 0 ↔ y < 0)) → W p l e R s m args below meth c H locs cells slots Q (F0 m (pc + 1) ls (.long (lZ z) :: rest))) : W p l e R s m args below meth c H locs cells slots Q (F0 m pc ls (.long (lZ y) :: .long (lZ x) :: rest)) := by
  obtain ⟨z, h1, h2, h3⟩ := lZ_xor rx ry
  refine lv_lxor hx hb hd ?_
  rw [h3]
  exact k z h1 h2
theorem zr_mmax (hx : p.tables.exec = Jvm.exec) (hb : c.code = cc) (hml : c.maxLocals = ls.size) {own : String} {index : Nat} (hown : s.vm.findClass own = some m.cls) (hlink : (Cond.methodLink own index Lib.Math.max.name).before args s = true) (hstat : (Cond.static Lib.Math.max.name).before args s = true) (hini : (Cond.initialized "java/lang/Math").before args s = true) (hcode : (Cond.code Lib.Math.max.name Lib.Math.max.code 2 (some .int)).before args s = true)
    (hframes : 1 ≤ R.frames) (hlocals : (rest.map fun v => v.category).sum + 13 ≤ R.locals) (hc : cells ≤ R.cells) (hs : slots ≤ R.slots) {x y : Int} (rx : iR x) (ry : iR y) (hd : decode cc pc = .ok (.invokestatic index, 3))
    (kk : W p l e R s m args below meth c H locs cells slots Q (F0 m (pc + 3) ls (.int (iZ (if x < y then y else x)) :: rest))) : W p l e R s m args below meth c H locs cells slots Q (F0 m pc ls (.int (iZ y) :: .int (iZ x) :: rest)) := by
  refine va_mmax hx hb hml hown hlink hstat hini hcode hframes hlocals hc hs hd ?_
  have e9 : (if iZ x < iZ y then iZ y else iZ x) = iZ (if x < y then y else x) := by
    by_cases h : x < y
    · rw [if_pos ((iZ_lt rx ry).mpr h), if_pos h]
    · rw [if_neg (fun q => h ((iZ_lt rx ry).mp q)), if_neg h]
  rw [e9]; exact kk
theorem zr_mmin (hx : p.tables.exec = Jvm.exec) (hb : c.code = cc) (hml : c.maxLocals = ls.size) {own : String} {index : Nat} (hown : s.vm.findClass own = some m.cls) (hlink : (Cond.methodLink own index Lib.Math.min.name).before args s = true) (hstat : (Cond.static Lib.Math.min.name).before args s = true) (hini : (Cond.initialized "java/lang/Math").before args s = true) (hcode : (Cond.code Lib.Math.min.name Lib.Math.min.code 2 (some .int)).before args s = true)
    (hframes : 1 ≤ R.frames) (hlocals : (rest.map fun v => v.category).sum + 13 ≤ R.locals) (hc : cells ≤ R.cells) (hs : slots ≤ R.slots) {x y : Int} (rx : iR x) (ry : iR y) (hd : decode cc pc = .ok (.invokestatic index, 3))
    (kk : W p l e R s m args below meth c H locs cells slots Q (F0 m (pc + 3) ls (.int (iZ (if y < x then y else x)) :: rest))) : W p l e R s m args below meth c H locs cells slots Q (F0 m pc ls (.int (iZ y) :: .int (iZ x) :: rest)) := by
  refine va_mmin hx hb hml hown hlink hstat hini hcode hframes hlocals hc hs hd ?_
  have e9 : (if iZ y < iZ x then iZ y else iZ x) = iZ (if y < x then y else x) := by
    by_cases h : y < x
    · rw [if_pos ((iZ_lt ry rx).mpr h), if_pos h]
    · rw [if_neg (fun q => h ((iZ_lt ry rx).mp q)), if_neg h]
  rw [e9]; exact kk
end ZR9
theorem pm_tmod {x y : Int} (hy : 0 < y) : (0 ≤ x → x.tmod y = x % y) ∧ (x < 0 → x.tmod y = 0 → x % y = 0) ∧ (x < 0 → x.tmod y ≠ 0 → x % y = x.tmod y + y) ∧ -y < x.tmod y ∧ x.tmod y < y ∧ (x < 0 → x.tmod y ≤ 0) := by
  have key : x < 0 → x.tmod y = -((-x) % y) := fun h => by
    have e : x.tmod y = -((-x).tmod y) := by rw [Int.neg_tmod, Int.neg_neg]
    rw [e, Int.tmod_eq_emod_of_nonneg (by omega)]
  have b1 := Int.emod_nonneg (-x) (show y ≠ 0 by omega)
  have b2 := Int.emod_lt_of_pos (-x) hy
  have c1 := Int.emod_nonneg x (show y ≠ 0 by omega)
  have c2 := Int.emod_lt_of_pos x hy
  obtain ⟨k, hk⟩ := pm_dec (-x) y
  refine ⟨fun h => Int.tmod_eq_emod_of_nonneg h, fun h h0 => ?_, fun h h0 => ?_, ?_⟩
  · have := key h
    have e : x % y = (0 : Int) % y := pm_eq ⟨k, by grind⟩
    rw [e, Int.zero_emod]
  · have := key h
    have e : x % y = (x.tmod y + y) % y := pm_eq ⟨k - 1, by grind⟩
    rw [e]
    exact Int.emod_eq_of_lt (by omega) (by omega)
  · by_cases h : 0 ≤ x
    · rw [Int.tmod_eq_emod_of_nonneg h]; omega
    · rw [key (by omega)]; omega
/-- a walk begins, of a method that no row of the natives names -/
theorem zsF {l : Launch} {D : va_G} {tys : zTys} {y : MethodName} {ws ws' : List Cond} {rm : Room} {mc ms : Nat} {as : List Value} {w0 : va_W} {cc : ByteArray} {maxL : Nat} {ret : Option FieldType} {Qc : (Nat → Prop) → Array Value → State → Outcome → State → Prop}
    (hy : plainFor y = true) (hw : ws = Cond.code y cc maxL ret :: ws') (hL : (lg_sl as).length ≤ maxL)
    (body : ∀ (p : Program) (e : Env) (s : State) (m : MethodId) (below : List Frame) (meth : Method) (c : Code) (ls : Array Slot) (A : Nat → Prop) (args : Array Value) (Q : State → Prop), Q = MQ below (Qc A) args s mc ms A → p.tables.exec = Jvm.exec → c.code = cc → meth.sig.returnType = ret → (∀ w ∈ ws, w.before args s = true) → s.vm.findClass y.cls = some m.cls → meth.locks = false → c.maxLocals = maxL → meth.name = y.name → zN s → (∀ q : Nat, s.heap.size ≤ q → A q) → va_K D vwCl tys s → va_P D vwCl w0 s.heap → va_D A w0 → va_S A s.heap s.heap [] → lv_has ls maxL (lv_args 0 as) →
      W p l e rm s m args below meth c s.heap [] 0 0 Q (F0 m 0 ls [])) : ∀ sz : Nat, Met l y ws rm (zPr D tys as w0 sz) (Qc (va_A w0 sz)) mc ms (va_A w0 sz) := by
  intro sz
  refine MetFree.of_bodySF (code := cc) (maxLocals := maxL) (ret := ret) hy ?_ ?_
  · intro args s m h hn
    obtain ⟨meth, c, h1, h2, h3, h4, h5, h6, -, -⟩ := Cond.code_spec hn (atoms_spec (ws := ws) h _ (by rw [hw]; exact List.mem_cons_self))
    exact ⟨meth, c, h1, h2, h3, h4, h5, h6⟩
  · intro p e s m args below meth c s₁ B hml hv _
    have hh0 : s₁.heap = s.heap := by rw [B.state]; rfl
    obtain ⟨rfl, hsz, hP, hK, hD0, hN⟩ := hv
    subst hsz
    have hl := lv_entry as (n := maxL) hL
    have hb := body p e s m below meth c _ _ _ _ rfl B.exec B.bytes B.returns (atoms_spec (ws := ws) B.pre) (findClass_of_methodNamed B.named) B.notSynchronized hml (name_of_methodNamed B.named B.method).1 hN (fun q h => Or.inr h) hK hP hD0.self va_S.rf hl
    rw [← lg_entry_eq] at hb
    obtain ⟨t, a1, o, b1, b2, b3⟩ := hb s₁ hh0 (Stand.of_body B)
    exact ⟨t, o, a1, b1, b2, ⟨b3.1, b3.2⟩⟩
theorem pm_sub {x y q : Int} (h1 : 0 ≤ x) (h2 : x < q) : (x - y % q < 0 → x - y % q + q = (x - y) % q) ∧ (¬ x - y % q < 0 → x - y % q = (x - y) % q) := by
  have c1 := Int.emod_nonneg y (show q ≠ 0 by omega)
  have c2 := Int.emod_lt_of_pos y (show 0 < q by omega)
  obtain ⟨k, hk⟩ := pm_dec y q
  refine ⟨fun h => ?_, fun h => ?_⟩
  · rw [← Int.emod_eq_of_lt (a := x - y % q + q) (b := q) (by omega) (by omega)]
    exact pm_eq ⟨1 - k, by rw [hk]; grind⟩
  · rw [← Int.emod_eq_of_lt (a := x - y % q) (b := q) (by omega) (by omega)]
    exact pm_eq ⟨-k, by rw [hk]; grind⟩
/-- what was told, as fractions -/
def eq_V (V : Nat → Rat) (a b : Nat → Int) : Prop := ∀ f : Nat, f < 42 → (V f).num = a f ∧ ((V f).den : Int) = b f
theorem pm_inv {q r w : Int} {e : Nat} {T : Int} (hT : r * w ^ e % q = T) : (((e : Nat) : Int) % 2 ^ 1 = 1 → r * w % q * (w * w % q) ^ (e / 2) % q = T) ∧ (((e : Nat) : Int) % 2 ^ 1 ≠ 1 → r * (w * w % q) ^ (e / 2) % q = T) := by
  have e3 : ((e : Nat) : Int) % 2 ^ 1 = ((e % 2 : Nat) : Int) := by simp
  rw [e3]
  have hp : ∀ n : Nat, ∃ k : Int, (w * w % q) ^ n = (w * w) ^ n + q * k := by
    intro n
    obtain ⟨k1, h1⟩ := pm_dec (w * w) q
    induction n with
    | zero => exact ⟨0, by rw [Int.pow_zero, Int.pow_zero]; omega⟩
    | succ n ih =>
      obtain ⟨k2, h2⟩ := ih
      refine ⟨(w * w) ^ n * k1 + k2 * (w * w) + q * k1 * k2, ?_⟩
      rw [Int.pow_succ, Int.pow_succ, h2, h1]; grind
  obtain ⟨k2, h2⟩ := hp (e / 2)
  have sq : (w * w) ^ (e / 2) = w ^ (e / 2 + e / 2) := by rw [Int.mul_pow, ← Int.pow_add]
  refine ⟨fun h => ?_, fun h => ?_⟩
  · obtain ⟨k3, h3⟩ := pm_dec (r * w) q
    rw [← hT]
    have e5 : w ^ e = w ^ (e / 2 + e / 2) * w := by rw [← Int.pow_succ]; congr 1; omega
    rw [e5, ← sq, h2, h3]
    generalize (w * w) ^ (e / 2) = E
    exact pm_eq ⟨r * w * k2 + k3 * E + q * k3 * k2, by grind⟩
  · rw [← hT]
    have e5 : w ^ e = w ^ (e / 2 + e / 2) := by congr 1; omega
    rw [e5, ← sq, h2]
    generalize (w * w) ^ (e / 2) = E
    exact pm_eq ⟨r * k2, by grind⟩
theorem pm_A_sw2 {n k a b : Nat} {q x y : Int} {Z : Nat → Int} {R : Nat → Nat → Int} (h : pm_A n q Z (pm_swk k R a b)) (hn : n ≤ 6) (hk : n ≤ k) (hk6 : k < 6) : pm_A n q (zu (zu Z (6 * a + k) x) (6 * b + k) y) (pm_swk (k + 1) R a b) := by
  intro i j hi hj
  rw [zu_n _ _ (by omega), zu_n _ _ (by omega)]
  have e : pm_swk (k + 1) R a b i j = pm_swk k R a b i j := by unfold pm_swk; rw [if_pos (by omega), if_pos (by omega)]
  rw [e]
  exact h i j hi hj
theorem pm_e_c {V : Nat → Rat} {q a b : Int} {f : Nat} (h1 : (V f).num = a) (h2 : ((V f).den : Int) = b) : (a % q * ((b % q) ^ (q.toNat - 2) % q)) % q = pm_e V q f := by
  unfold pm_e
  rw [h1, h2]
  generalize (b % q) ^ (q.toNat - 2) = E
  obtain ⟨k1, e1⟩ := pm_dec a q
  obtain ⟨k2, e2⟩ := pm_dec E q
  rw [e1, e2]
  exact pm_eq ⟨k1 * E + a * k2 + q * k1 * k2, by grind⟩
set_option maxHeartbeats 4000000 in
set_option maxRecDepth 100000 in
/-- Math.floorMod -/
theorem c_floorMod (l : Launch) (D : va_G) (cI cJ cE cF cR : ClassId) (x9 y9 : Int) (hx9 : lR x9) (hy9 : lR y9) (hy0 : 0 < y9) : Cl l D (zty cI cJ cE cF cR) yJ9_floorMod_f86c9 wsJ9_floorMod_f86c9 (zRm 0 0) 0 0 [.long (lZ (x9)), .long (lZ (y9))] [] (fun r w1 => w1 = [] ∧ r = x9 % y9) := by
  unfold Cl
  refine zsF (Qc := zQl D _ _) (cc := cJ9_floorMod_f86c9) (maxL := 6) (ret := (some .long)) (by decide +kernel) rfl (Nat.le_of_ble_eq_true rfl) ?_
  intro zp ze s zm below meth zc ls A args Q hQ hx hb hr hts hown hlk hml hnm hN hA hK hP hD hS hl
  have hl : lv_has ls 6 [(0, .long (lZ (x9))), (2, .long (lZ (y9)))] := hl
  have htm := pm_tmod (x := x9) hy0
  have hy91 := hy9.1
  have hy92 := hy9.2
  have htb := htm.2.2.2
  refine lv_lload_n hx hb dJ9_floorMod_f86c9_0 rfl (lv_at hl 0 rfl) ?_
  refine lv_lload_n hx hb dJ9_floorMod_f86c9_1 rfl (lv_at hl 1 rfl) ?_
  refine zr_lremT hx hb hx9 hy9 (by omega) dJ9_floorMod_f86c9_2 ?_
  refine lv_lstore (lv' := [(4, .long (lZ ((x9).tmod (y9)))), (0, .long (lZ (x9))), (2, .long (lZ (y9)))]) hx hb dJ9_floorMod_f86c9_3 hl (by decide) rfl (fun ls hl => ?_)
  refine lv_lload_n hx hb dJ9_floorMod_f86c9_5 rfl (lv_at hl 1 rfl) ?_
  refine lv_lload_n hx hb dJ9_floorMod_f86c9_6 rfl (lv_at hl 2 rfl) ?_
  refine zr_lxor hx hb hx9 hy9 dJ9_floorMod_f86c9_7 (fun zx hzx hsx => ?_)
  refine lv_lconst (v := lZ 0) hx hb dJ9_floorMod_f86c9_8 rfl ?_
  refine zr_lcmp_ge hx hb 25 hzx (by decide) dJ9_floorMod_f86c9_9 dJ9_floorMod_f86c9_10 (by decide) (fun h_9 => ?_) (fun h_9 => ?_)
  · refine lv_lload hx hb dJ9_floorMod_f86c9_25 (lv_at hl 0 rfl) ?_
    exact zr_lret hQ hx hb hr hlk dJ9_floorMod_f86c9_27 hK hP hD hS (by omega) (by omega) ⟨by omega, by omega⟩ (⟨rfl, by by_cases w : 0 ≤ x9; (exact htm.1 w); (have w2 : (x9).tmod y9 = 0 := by omega); (rw [w2]; exact (htm.2.1 (by omega) w2).symm)⟩)
  · refine lv_lload hx hb dJ9_floorMod_f86c9_13 (lv_at hl 0 rfl) ?_
    refine lv_lconst (v := lZ 0) hx hb dJ9_floorMod_f86c9_15 rfl ?_
    refine zr_lcmp_eq hx hb 25 ⟨by omega, by omega⟩ (by decide) dJ9_floorMod_f86c9_16 dJ9_floorMod_f86c9_17 (by decide) (fun h_16 => ?_) (fun h_16 => ?_)
    · refine lv_lload hx hb dJ9_floorMod_f86c9_25 (lv_at hl 0 rfl) ?_
      exact zr_lret hQ hx hb hr hlk dJ9_floorMod_f86c9_27 hK hP hD hS (by omega) (by omega) ⟨by omega, by omega⟩ (⟨rfl, by by_cases w : 0 ≤ x9; (exact htm.1 w); (have w2 : (x9).tmod y9 = 0 := by omega); (rw [w2]; exact (htm.2.1 (by omega) w2).symm)⟩)
    · refine lv_lload hx hb dJ9_floorMod_f86c9_20 (lv_at hl 0 rfl) ?_
      refine lv_lload_n hx hb dJ9_floorMod_f86c9_22 rfl (lv_at hl 2 rfl) ?_
      refine zr_ladd hx hb dJ9_floorMod_f86c9_23 ?_
      exact zr_lret hQ hx hb hr hlk dJ9_floorMod_f86c9_24 hK hP hD hS (by omega) (by omega) ⟨by omega, by omega⟩ (⟨rfl, (htm.2.2.1 (by omega) (by omega)).symm⟩)

set_option maxHeartbeats 4000000 in
set_option maxRecDepth 100000 in
/-- Residues.isPrime -/
theorem c_rprime (l : Launch) (D : va_G) (cI cJ cE cF cR : ClassId) (q9 : Int) (hq0 : iR q9) : Ci l D (zty cI cJ cE cF cR) yX7_isPrime wsX7_isPrime (zRm 0 0) 0 0 [.int (iZ (q9))] [] (fun r w1 => w1 = [] ∧ ((pm_prime q9 ∧ r = 1) ∨ (¬ pm_prime q9 ∧ r = 0))) := by
  unfold Ci
  refine zs (Qc := zQi D _ _) (cc := cX7_isPrime) (maxL := 2) (ret := (some .boolean)) (by decide) rfl (Nat.le_of_ble_eq_true rfl) ?_
  intro zp ze s zm below meth zc ls A args Q hQ hx hb hr hts hown hlk hml hnm hN hA hK hP hD hS hl
  have q_constant_RX7_60_46337 := hts (.constant RX7 60 (46337)) (by decide +kernel)
  have hl : lv_has ls 2 [(0, .int (iZ (q9)))] := hl
  have lp : ∀ (t : Nat) (d : Nat) (H : Heap) (locs : List Loc) (ls : Array Slot), (2 ≤ q9) → (q9 ≤ 46337) → (d + t = 217) → (2 ≤ d) → (∀ k : Nat, 2 ≤ k → k < d → q9 % (k : Int) ≠ 0) →  va_P D vwCl [] H → va_D A [] → va_S A s.heap H locs → lv_has ls 2 [(1, .int (iZ (((d : Nat) : Int)))), (0, .int (iZ (q9)))] → W zp l ze (zRm 0 0) s zm args below meth zc H locs 0 0 Q (F0 zm 15 ls []) := by
    intro t
    induction t with
    | zero =>
      intro d H locs ls hq1 hq2 hdt hd2 hno hP hD hS hl
      have hsq : ((d : Nat) : Int) * ((d : Nat) : Int) = ((d * d : Nat) : Int) := (Int.natCast_mul d d).symm
      have hdm : d * d ≤ 217 * 217 := Nat.mul_le_mul (by omega) (by omega)
      have hdl : 2 * d ≤ d * d := Nat.mul_le_mul_right d hd2
      have hm0 := Int.emod_nonneg q9 (show ((d : Nat) : Int) ≠ 0 by omega)
      have hm1 := Int.emod_lt_of_pos q9 (show (0 : Int) < ((d : Nat) : Int) by omega)
      refine lv_iload_n hx hb dX7_isPrime_15 rfl (lv_at hl 0 rfl) ?_
      refine lv_iload_n hx hb dX7_isPrime_16 rfl (lv_at hl 0 rfl) ?_
      refine zr_imul hx hb dX7_isPrime_17 ?_
      refine lv_iload_n hx hb dX7_isPrime_18 rfl (lv_at hl 1 rfl) ?_
      refine zr_icmp_gt hx hb 36 ⟨by omega, by omega⟩ ⟨by omega, by omega⟩ dX7_isPrime_19 (by decide) (fun h_19 => ?_) (fun h_19 => ?_)
      · refine lv_iconst (v := iZ 1) hx hb dX7_isPrime_36 rfl ?_
        exact zr_zret hQ hx hb hr hlk dX7_isPrime_37 hK hP hD hS (by omega) (by omega) (by omega) (⟨rfl, Or.inl ⟨⟨hq1, hq2, fun k h2 h3 => hno k h2 (by have h4 := Nat.mul_self_le_mul_self_iff (m := d) (n := k); rcases Nat.lt_or_ge k d with w | w; exact w; exfalso; have := h4.mpr w; omega)⟩, rfl⟩⟩)
      · exfalso; have : 217 * 217 ≤ d * d := Nat.mul_le_mul (by omega) (by omega); omega
    | succ t ih =>
      intro d H locs ls hq1 hq2 hdt hd2 hno hP hD hS hl
      have hsq : ((d : Nat) : Int) * ((d : Nat) : Int) = ((d * d : Nat) : Int) := (Int.natCast_mul d d).symm
      have hdm : d * d ≤ 217 * 217 := Nat.mul_le_mul (by omega) (by omega)
      have hdl : 2 * d ≤ d * d := Nat.mul_le_mul_right d hd2
      have hm0 := Int.emod_nonneg q9 (show ((d : Nat) : Int) ≠ 0 by omega)
      have hm1 := Int.emod_lt_of_pos q9 (show (0 : Int) < ((d : Nat) : Int) by omega)
      refine lv_iload_n hx hb dX7_isPrime_15 rfl (lv_at hl 0 rfl) ?_
      refine lv_iload_n hx hb dX7_isPrime_16 rfl (lv_at hl 0 rfl) ?_
      refine zr_imul hx hb dX7_isPrime_17 ?_
      refine lv_iload_n hx hb dX7_isPrime_18 rfl (lv_at hl 1 rfl) ?_
      refine zr_icmp_gt hx hb 36 ⟨by omega, by omega⟩ ⟨by omega, by omega⟩ dX7_isPrime_19 (by decide) (fun h_19 => ?_) (fun h_19 => ?_)
      · refine lv_iconst (v := iZ 1) hx hb dX7_isPrime_36 rfl ?_
        exact zr_zret hQ hx hb hr hlk dX7_isPrime_37 hK hP hD hS (by omega) (by omega) (by omega) (⟨rfl, Or.inl ⟨⟨hq1, hq2, fun k h2 h3 => hno k h2 (by have h4 := Nat.mul_self_le_mul_self_iff (m := d) (n := k); rcases Nat.lt_or_ge k d with w | w; exact w; exfalso; have := h4.mpr w; omega)⟩, rfl⟩⟩)
      · refine lv_iload_n hx hb dX7_isPrime_22 rfl (lv_at hl 1 rfl) ?_
        refine lv_iload_n hx hb dX7_isPrime_23 rfl (lv_at hl 0 rfl) ?_
        refine zr_irem hx hb ⟨by omega, by omega⟩ ⟨by omega, by omega⟩ (by omega) (by omega) dX7_isPrime_24 ?_
        refine zr_if_ne hx hb 30 ⟨by omega, by omega⟩ dX7_isPrime_25 (by decide) (fun h_25 => ?_) (fun h_25 => ?_)
        · refine lv_iinc (v := iZ (((d + 1 : Nat) : Int))) (lv' := [(1, .int (iZ (((d + 1 : Nat) : Int)))), (0, .int (iZ (q9)))]) hx hb dX7_isPrime_30 hl (k := 0) rfl (by rw [show ((d + 1 : Nat) : Int) = ((d : Nat) : Int) + 1 by omega]; exact iZ_add _ _) (by decide) rfl (fun ls hl => ?_)
          refine lv_goto (tgt := 15) hx hb dX7_isPrime_33 (by decide) ?_
          exact ih (d + 1) H locs ls hq1 hq2 (by omega) (by omega) (fun k h1 h2 => by by_cases w : k = d; (rw [w]; exact h_25); exact hno k h1 (by omega)) hP hD hS (lv_sub hl [0, 1] rfl)
        · refine lv_iconst (v := iZ 0) hx hb dX7_isPrime_28 rfl ?_
          exact zr_zret hQ hx hb hr hlk dX7_isPrime_29 hK hP hD hS (by omega) (by omega) (by omega) (⟨rfl, Or.inr ⟨fun h => h.2.2 d hd2 (by omega) (by omega), rfl⟩⟩)
  refine lv_iload_n hx hb dX7_isPrime_0 rfl (lv_at hl 0 rfl) ?_
  refine lv_iconst (v := iZ 2) hx hb dX7_isPrime_1 rfl ?_
  refine zr_icmp_lt hx hb 11 hq0 (by decide) dX7_isPrime_2 (by decide) (fun h_2 => ?_) (fun h_2 => ?_)
  · refine lv_iconst (v := iZ 0) hx hb dX7_isPrime_11 rfl ?_
    exact zr_zret hQ hx hb hr hlk dX7_isPrime_12 hK hP hD hS (by omega) (by omega) (by omega) (⟨rfl, Or.inr ⟨fun h => by have h1 := h.1; have h2 := h.2.1; omega, rfl⟩⟩)
  · refine lv_iload_n hx hb dX7_isPrime_5 rfl (lv_at hl 0 rfl) ?_
    refine zr_ldc hx hb 46337 (by decide) hown q_constant_RX7_60_46337 dX7_isPrime_6 ?_
    refine zr_icmp_le hx hb 13 hq0 (by decide) dX7_isPrime_8 (by decide) (fun h_8 => ?_) (fun h_8 => ?_)
    · refine lv_iconst (v := iZ 2) hx hb dX7_isPrime_13 rfl ?_
      refine zr_eqi (((2 : Nat) : Int)) (by rfl) ?_
      refine lv_istore_n (lv' := [(1, .int (iZ (((2 : Nat) : Int)))), (0, .int (iZ (q9)))]) hx hb dX7_isPrime_14 rfl hl (by decide) rfl (fun ls hl => ?_)
      exact lp 215 2 s.heap [] ls (by omega) (by omega) (by omega) (by decide) (fun k h1 h2 => by omega) hP hD hS (lv_sub hl [0, 1] rfl)
    · refine lv_iconst (v := iZ 0) hx hb dX7_isPrime_11 rfl ?_
      exact zr_zret hQ hx hb hr hlk dX7_isPrime_12 hK hP hD hS (by omega) (by omega) (by omega) (⟨rfl, Or.inr ⟨fun h => by have h1 := h.1; have h2 := h.2.1; omega, rfl⟩⟩)

set_option maxHeartbeats 4000000 in
set_option maxRecDepth 100000 in
/-- Residues.inverse -/
theorem c_inverse (l : Launch) (D : va_G) (cI cJ cE cF cR : ClassId) (v9 q9 : Int) (hq1 : 2 ≤ q9) (hq2 : q9 ≤ 46337) (hv0 : 0 ≤ v9 ∧ v9 < q9) : Ci l D (zty cI cJ cE cF cR) yX7_inverse wsX7_inverse (zRm 0 0) 0 0 [.int (iZ (v9)), .int (iZ (q9))] [] (fun r w1 => w1 = [] ∧ r = v9 ^ (q9.toNat - 2) % q9) := by
  unfold Ci
  refine zs (Qc := zQi D _ _) (cc := cX7_inverse) (maxL := 5) (ret := (some .int)) (by decide) rfl (Nat.le_of_ble_eq_true rfl) ?_
  intro zp ze s zm below meth zc ls A args Q hQ hx hb hr hts hown hlk hml hnm hN hA hK hP hD hS hl
  have hl : lv_has ls 5 [(0, .int (iZ (v9))), (1, .int (iZ (q9)))] := hl
  have lp : ∀ (t : Nat) (e9 : Nat) (w : Int) (r : Int) (H : Heap) (locs : List Loc) (ls : Array Slot), (e9 ≤ t) → (0 ≤ r ∧ r < q9) → (0 ≤ w ∧ w < q9) → (r * w ^ e9 % q9 = v9 ^ (q9.toNat - 2) % q9) → (e9 < 46337) →  va_P D vwCl [] H → va_D A [] → va_S A s.heap H locs → lv_has ls 5 [(4, .int (iZ (((e9 : Nat) : Int)))), (3, .int (iZ (w))), (2, .int (iZ (r))), (0, .int (iZ (v9))), (1, .int (iZ (q9)))] → W zp l ze (zRm 0 0) s zm args below meth zc H locs 0 0 Q (F0 zm 9 ls []) := by
    intro t
    induction t with
    | zero =>
      intro e9 w r H locs ls het hr0 hw0 hrw he31 hP hD hS hl
      refine lv_iload hx hb dX7_inverse_9 (lv_at hl 0 rfl) ?_
      refine zr_if_le hx hb 43 ⟨by omega, by omega⟩ dX7_inverse_11 (by decide) (fun h_11 => ?_) (fun h_11 => ?_)
      · refine lv_iload_n hx hb dX7_inverse_43 rfl (lv_at hl 2 rfl) ?_
        exact zr_iret hQ hx hb hr hlk dX7_inverse_44 hK hP hD hS (by omega) (by omega) ⟨by omega, by omega⟩ (⟨rfl, by rw [← hrw, show e9 = 0 by omega, Int.pow_zero, Int.mul_one, Int.emod_eq_of_lt hr0.1 hr0.2]⟩)
      · exfalso; omega
    | succ t ih =>
      intro e9 w r H locs ls het hr0 hw0 hrw he31 hP hD hS hl
      refine lv_iload hx hb dX7_inverse_9 (lv_at hl 0 rfl) ?_
      refine zr_if_le hx hb 43 ⟨by omega, by omega⟩ dX7_inverse_11 (by decide) (fun h_11 => ?_) (fun h_11 => ?_)
      · refine lv_iload_n hx hb dX7_inverse_43 rfl (lv_at hl 2 rfl) ?_
        exact zr_iret hQ hx hb hr hlk dX7_inverse_44 hK hP hD hS (by omega) (by omega) ⟨by omega, by omega⟩ (⟨rfl, by rw [← hrw, show e9 = 0 by omega, Int.pow_zero, Int.mul_one, Int.emod_eq_of_lt hr0.1 hr0.2]⟩)
      · have hww := pm_mul (a := w) (b := w) hw0.1 (by omega) hw0.1 (by omega)
        have hrm := pm_mul (a := r) (b := w) hr0.1 (by omega) hw0.1 (by omega)
        have hlt2 : 0 ≤ ((e9 : Nat) : Int) % 2 ^ 1 ∧ ((e9 : Nat) : Int) % 2 ^ 1 < 2 := ⟨Int.emod_nonneg _ (by decide), Int.emod_lt_of_pos _ (by decide)⟩
        have hem := fun x : Int => Int.emod_nonneg x (show q9 ≠ 0 by omega)
        have hel := fun x : Int => Int.emod_lt_of_pos x (show 0 < q9 by omega)
        refine lv_iload hx hb dX7_inverse_14 (lv_at hl 0 rfl) ?_
        refine lv_iconst (v := iZ 1) hx hb dX7_inverse_16 rfl ?_
        refine zr_iand hx hb 1 (by decide) (by decide) dX7_inverse_17 ?_
        refine lv_iconst (v := iZ 1) hx hb dX7_inverse_18 rfl ?_
        refine zr_icmp_ne hx hb 28 ⟨by omega, by omega⟩ (by decide) dX7_inverse_19 (by decide) (fun h_19 => ?_) (fun h_19 => ?_)
        · refine lv_iload_n hx hb dX7_inverse_28 rfl (lv_at hl 1 rfl) ?_
          refine lv_iload_n hx hb dX7_inverse_29 rfl (lv_at hl 1 rfl) ?_
          refine zr_imul hx hb dX7_inverse_30 ?_
          refine lv_iload_n hx hb dX7_inverse_31 rfl (lv_at hl 4 rfl) ?_
          refine zr_irem hx hb ⟨by omega, by omega⟩ ⟨by omega, by omega⟩ (by omega) (by omega) dX7_inverse_32 ?_
          refine lv_istore_n (lv' := [(3, .int (iZ (((w) * (w)) % (q9)))), (4, .int (iZ (((e9 : Nat) : Int)))), (2, .int (iZ (r))), (0, .int (iZ (v9))), (1, .int (iZ (q9)))]) hx hb dX7_inverse_33 rfl hl (by decide) rfl (fun ls hl => ?_)
          refine lv_iload hx hb dX7_inverse_34 (lv_at hl 1 rfl) ?_
          refine lv_iconst (v := iZ 1) hx hb dX7_inverse_36 rfl ?_
          refine zr_eqi (((1 : Nat) : Int)) (by rfl) ?_
          refine zr_ishr (k := 1) hx hb ⟨by omega, by omega⟩ (by omega) dX7_inverse_37 ?_
          refine zr_eqi (((e9 / 2 : Nat) : Int)) (by show ((e9 : Nat) : Int) / 2 ^ 1 = _; simp) ?_
          refine lv_istore (lv' := [(4, .int (iZ (((e9 / 2 : Nat) : Int)))), (3, .int (iZ (((w) * (w)) % (q9)))), (2, .int (iZ (r))), (0, .int (iZ (v9))), (1, .int (iZ (q9)))]) hx hb dX7_inverse_38 hl (by decide) rfl (fun ls hl => ?_)
          refine lv_goto (tgt := 9) hx hb dX7_inverse_40 (by decide) ?_
          exact ih (e9 / 2) _ _ H locs ls (by omega) hr0 ⟨hem _, hel _⟩ ((pm_inv hrw).2 (by omega)) (by omega) hP hD hS (lv_sub hl [0, 1, 2, 3, 4] rfl)
        · refine lv_iload_n hx hb dX7_inverse_22 rfl (lv_at hl 2 rfl) ?_
          refine lv_iload_n hx hb dX7_inverse_23 rfl (lv_at hl 1 rfl) ?_
          refine zr_imul hx hb dX7_inverse_24 ?_
          refine lv_iload_n hx hb dX7_inverse_25 rfl (lv_at hl 4 rfl) ?_
          refine zr_irem hx hb ⟨by omega, by omega⟩ ⟨by omega, by omega⟩ (by omega) (by omega) dX7_inverse_26 ?_
          refine lv_istore_n (lv' := [(2, .int (iZ (((r) * (w)) % (q9)))), (4, .int (iZ (((e9 : Nat) : Int)))), (3, .int (iZ (w))), (0, .int (iZ (v9))), (1, .int (iZ (q9)))]) hx hb dX7_inverse_27 rfl hl (by decide) rfl (fun ls hl => ?_)
          refine lv_iload_n hx hb dX7_inverse_28 rfl (lv_at hl 2 rfl) ?_
          refine lv_iload_n hx hb dX7_inverse_29 rfl (lv_at hl 2 rfl) ?_
          refine zr_imul hx hb dX7_inverse_30 ?_
          refine lv_iload_n hx hb dX7_inverse_31 rfl (lv_at hl 4 rfl) ?_
          refine zr_irem hx hb ⟨by omega, by omega⟩ ⟨by omega, by omega⟩ (by omega) (by omega) dX7_inverse_32 ?_
          refine lv_istore_n (lv' := [(3, .int (iZ (((w) * (w)) % (q9)))), (2, .int (iZ (((r) * (w)) % (q9)))), (4, .int (iZ (((e9 : Nat) : Int)))), (0, .int (iZ (v9))), (1, .int (iZ (q9)))]) hx hb dX7_inverse_33 rfl hl (by decide) rfl (fun ls hl => ?_)
          refine lv_iload hx hb dX7_inverse_34 (lv_at hl 2 rfl) ?_
          refine lv_iconst (v := iZ 1) hx hb dX7_inverse_36 rfl ?_
          refine zr_eqi (((1 : Nat) : Int)) (by rfl) ?_
          refine zr_ishr (k := 1) hx hb ⟨by omega, by omega⟩ (by omega) dX7_inverse_37 ?_
          refine zr_eqi (((e9 / 2 : Nat) : Int)) (by show ((e9 : Nat) : Int) / 2 ^ 1 = _; simp) ?_
          refine lv_istore (lv' := [(4, .int (iZ (((e9 / 2 : Nat) : Int)))), (3, .int (iZ (((w) * (w)) % (q9)))), (2, .int (iZ (((r) * (w)) % (q9)))), (0, .int (iZ (v9))), (1, .int (iZ (q9)))]) hx hb dX7_inverse_38 hl (by decide) rfl (fun ls hl => ?_)
          refine lv_goto (tgt := 9) hx hb dX7_inverse_40 (by decide) ?_
          exact ih (e9 / 2) _ _ H locs ls (by omega) ⟨hem _, hel _⟩ ⟨hem _, hel _⟩ ((pm_inv hrw).1 (by omega)) (by omega) hP hD hS (lv_sub hl [0, 1, 2, 3, 4] rfl)
  refine lv_iconst (v := iZ 1) hx hb dX7_inverse_0 rfl ?_
  refine lv_istore_n (lv' := [(2, .int (iZ (1))), (0, .int (iZ (v9))), (1, .int (iZ (q9)))]) hx hb dX7_inverse_1 rfl hl (by decide) rfl (fun ls hl => ?_)
  refine lv_iload_n hx hb dX7_inverse_2 rfl (lv_at hl 1 rfl) ?_
  refine lv_istore_n (lv' := [(3, .int (iZ (v9))), (2, .int (iZ (1))), (0, .int (iZ (v9))), (1, .int (iZ (q9)))]) hx hb dX7_inverse_3 rfl hl (by decide) rfl (fun ls hl => ?_)
  refine lv_iload_n hx hb dX7_inverse_4 rfl (lv_at hl 3 rfl) ?_
  refine lv_iconst (v := iZ 2) hx hb dX7_inverse_5 rfl ?_
  refine zr_isub hx hb dX7_inverse_6 ?_
  refine zr_eqi (((q9.toNat - 2 : Nat) : Int)) (by omega) ?_
  refine lv_istore (lv' := [(4, .int (iZ (((q9.toNat - 2 : Nat) : Int)))), (3, .int (iZ (v9))), (2, .int (iZ (1))), (0, .int (iZ (v9))), (1, .int (iZ (q9)))]) hx hb dX7_inverse_7 hl (by decide) rfl (fun ls hl => ?_)
  exact lp (q9.toNat - 2) (q9.toNat - 2) v9 1 s.heap [] ls (Nat.le_refl _) ⟨by decide, by omega⟩ hv0 (by rw [Int.one_mul]) (by omega) hP hD hS (lv_sub hl [0, 1, 2, 3, 4] rfl)

set_option maxHeartbeats 4000000 in
set_option maxRecDepth 100000 in
/-- Residues.firstRowWith -/
theorem c_rfirst (l : Launch) (D : va_G) (cI cJ cE cF cR : ClassId) (re sq c9 n : Nat) (q9 : Int) (Z : Nat → Int) (R : Nat → Nat → Int) (hn : n ≤ 6) (hc9 : c9 < n) (hq2 : q9 ≤ 46337) (hPA : pm_A n q9 Z R) : Ci l D (zty cI cJ cE cF cR) yX7_firstRowWith wsX7_firstRowWith (zRm 0 0) 0 0 [.ref (re), .int (iZ (((c9 : Nat) : Int))), .int (iZ (((n : Nat) : Int)))] [(re, .inr (7, [.ref (sq)])), (sq, aI cI (36) (Z))] (fun r w1 => w1 = [(re, .inr (7, [.ref (sq)])), (sq, aI cI (36) (Z))] ∧ ((pm_find R c9 c9 (n - c9) < n ∧ r = ((pm_find R c9 c9 (n - c9) : Nat) : Int)) ∨ (¬ pm_find R c9 c9 (n - c9) < n ∧ r = -1))) := by
  unfold Ci
  refine zs (Qc := zQi D _ _) (cc := cX7_firstRowWith) (maxL := 4) (ret := (some .int)) (by decide) rfl (Nat.le_of_ble_eq_true rfl) ?_
  intro zp ze s zm below meth zc ls A args Q hQ hx hb hr hts hown hlk hml hnm hN hA hK hP hD hS hl
  have q_f_RX7_9_Residues_square_I := hts (.fieldLink RX7 9 "LimbSolver$Residues" "square" "[I") (by decide +kernel)
  have hin7 : ∀ w ∈ wsX70, w ∈ wsX7_firstRowWith := by decide +kernel
  have hl : lv_has ls 4 [(0, .ref (re)), (1, .int (iZ (((c9 : Nat) : Int)))), (2, .int (iZ (((n : Nat) : Int))))] := hl
  have lp : ∀ (t : Nat) (i : Nat) (H : Heap) (locs : List Loc) (ls : Array Slot), (i + t = n) → (c9 ≤ i) → (pm_find R c9 i t = pm_find R c9 c9 (n - c9)) →  va_P D vwCl [(re, .inr (7, [.ref (sq)])), (sq, aI cI (36) (Z))] H → va_D A [(re, .inr (7, [.ref (sq)])), (sq, aI cI (36) (Z))] → va_S A s.heap H locs → lv_has ls 4 [(3, .int (iZ (((i : Nat) : Int)))), (0, .ref (re)), (1, .int (iZ (((c9 : Nat) : Int)))), (2, .int (iZ (((n : Nat) : Int))))] → W zp l ze (zRm 0 0) s zm args below meth zc H locs 0 0 Q (F0 zm 2 ls []) := by
    intro t
    induction t with
    | zero =>
      intro i H locs ls hit hci hfd hP hD hS hl
      refine lv_iload_n hx hb dX7_firstRowWith_2 rfl (lv_at hl 0 rfl) ?_
      refine lv_iload_n hx hb dX7_firstRowWith_3 rfl (lv_at hl 3 rfl) ?_
      refine zr_icmp_ge hx hb 29 ⟨by omega, by omega⟩ ⟨by omega, by omega⟩ dX7_firstRowWith_4 (by decide) (fun h_4 => ?_) (fun h_4 => ?_)
      · refine lv_iconst (v := iZ (-1)) hx hb dX7_firstRowWith_29 rfl ?_
        exact zr_iret hQ hx hb hr hlk dX7_firstRowWith_30 hK hP hD hS (by omega) (by omega) (by decide) (⟨rfl, Or.inr ⟨by rw [← hfd]; show ¬ i < n; omega, rfl⟩⟩)
      · exfalso; omega
    | succ t ih =>
      intro i H locs ls hit hci hfd hP hD hS hl
      refine lv_iload_n hx hb dX7_firstRowWith_2 rfl (lv_at hl 0 rfl) ?_
      refine lv_iload_n hx hb dX7_firstRowWith_3 rfl (lv_at hl 3 rfl) ?_
      refine zr_icmp_ge hx hb 29 ⟨by omega, by omega⟩ ⟨by omega, by omega⟩ dX7_firstRowWith_4 (by decide) (fun h_4 => ?_) (fun h_4 => ?_)
      · exfalso; omega
      · have hrr := (hPA i c9 (by omega) (by omega)).2
        refine lv_aload_n hx hb dX7_firstRowWith_7 rfl (lv_at hl 1 rfl) ?_
        refine va_get (D := D) (ci := 7) (v := .ref (sq)) (C := RX7) (T := TX7) (N := 1) hx hb hts hin7 hown hK hP 0 rfl rfl 0 (by decide) q_f_RX7_9_Residues_square_I (fun _ h9 => h9) rfl dX7_firstRowWith_8 ?_
        refine lv_iload_n hx hb dX7_firstRowWith_11 rfl (lv_at hl 0 rfl) ?_
        refine lv_bipush (v := iZ 6) hx hb dX7_firstRowWith_12 (by decide) ?_
        refine zr_imul hx hb dX7_firstRowWith_14 ?_
        refine lv_iload_n hx hb dX7_firstRowWith_15 rfl (lv_at hl 2 rfl) ?_
        refine zr_iadd hx hb dX7_firstRowWith_16 ?_
        refine zr_iald hx hb hK hP 1 0 rfl rfl (6 * i + c9) (by omega) (by omega) (by omega) dX7_firstRowWith_17 ?_
        refine zr_eqi (R i c9) (hPA i c9 (by omega) (by omega)).1 ?_
        refine zr_if_eq hx hb 23 ⟨by omega, by omega⟩ dX7_firstRowWith_18 (by decide) (fun h_18 => ?_) (fun h_18 => ?_)
        · refine lv_iinc (v := iZ (((i + 1 : Nat) : Int))) (lv' := [(3, .int (iZ (((i + 1 : Nat) : Int)))), (0, .ref (re)), (1, .int (iZ (((c9 : Nat) : Int)))), (2, .int (iZ (((n : Nat) : Int))))]) hx hb dX7_firstRowWith_23 hl (k := 0) rfl (by rw [show ((i + 1 : Nat) : Int) = ((i : Nat) : Int) + 1 by omega]; exact iZ_add _ _) (by decide) rfl (fun ls hl => ?_)
          refine lv_goto (tgt := 2) hx hb dX7_firstRowWith_26 (by decide) ?_
          exact ih (i + 1) H locs ls (by omega) (by omega) (by rw [← hfd]; exact (if_pos h_18).symm) hP hD hS (lv_sub hl [0, 1, 2, 3] rfl)
        · refine lv_iload_n hx hb dX7_firstRowWith_21 rfl (lv_at hl 0 rfl) ?_
          exact zr_iret hQ hx hb hr hlk dX7_firstRowWith_22 hK hP hD hS (by omega) (by omega) ⟨by omega, by omega⟩ (⟨rfl, Or.inl ⟨by rw [← hfd]; show (if R i c9 = 0 then _ else i) < n; rw [if_neg h_18]; omega, by rw [← hfd]; show _ = (((if R i c9 = 0 then _ else i) : Nat) : Int); rw [if_neg h_18]⟩⟩)
  refine lv_iload_n hx hb dX7_firstRowWith_0 rfl (lv_at hl 1 rfl) ?_
  refine lv_istore_n (lv' := [(3, .int (iZ (((c9 : Nat) : Int)))), (0, .ref (re)), (1, .int (iZ (((c9 : Nat) : Int)))), (2, .int (iZ (((n : Nat) : Int))))]) hx hb dX7_firstRowWith_1 rfl hl (by decide) rfl (fun ls hl => ?_)
  exact lp (n - c9) c9 s.heap [] ls (by omega) (Nat.le_refl _) rfl hP hD hS (lv_sub hl [0, 1, 2, 3] rfl)

set_option maxHeartbeats 4000000 in
set_option maxRecDepth 100000 in
/-- Residues.changePlaces -/
theorem c_rchange (l : Launch) (D : va_G) (cI cJ cE cF cR : ClassId) (re sq a b n : Nat) (q9 : Int) (Z : Nat → Int) (R : Nat → Nat → Int) (hn : n ≤ 6) (ha : a < n) (hb9 : b < n) (hab : a ≠ b) (hPA : pm_A n q9 Z R) : Cv l D (zty cI cJ cE cF cR) yX7_changePlaces wsX7_changePlaces (zRm 0 0) 0 0 [.ref (re), .int (iZ (((a : Nat) : Int))), .int (iZ (((b : Nat) : Int)))] [(re, .inr (7, [.ref (sq)])), (sq, aI cI (36) (Z))] (fun w1 => ∃ Z1 : Nat → Int, w1 = [(re, .inr (7, [.ref (sq)])), (sq, aI cI (36) (Z1))] ∧ pm_A n q9 Z1 (pm_sw R a b)) := by
  unfold Cv
  refine zs (Qc := zQv D _ _) (cc := cX7_changePlaces) (maxL := 5) (ret := none) (by decide) rfl (Nat.le_of_ble_eq_true rfl) ?_
  intro zp ze s zm below meth zc ls A args Q hQ hx hb hr hts hown hlk hml hnm hN hA hK hP hD hS hl
  have q_f_RX7_9_Residues_square_I := hts (.fieldLink RX7 9 "LimbSolver$Residues" "square" "[I") (by decide +kernel)
  have hin7 : ∀ w ∈ wsX70, w ∈ wsX7_changePlaces := by decide +kernel
  have hl : lv_has ls 5 [(0, .ref (re)), (1, .int (iZ (((a : Nat) : Int)))), (2, .int (iZ (((b : Nat) : Int))))] := hl
  have lp : ∀ (t : Nat) (k : Nat) (Z5 : Nat → Int) (H : Heap) (locs : List Loc) (ls : Array Slot), (k + t = 6) → (pm_A n q9 Z5 (pm_swk k R a b)) →  va_P D vwCl [(re, .inr (7, [.ref (sq)])), (sq, aI cI (36) (Z5))] H → va_D A [(re, .inr (7, [.ref (sq)])), (sq, aI cI (36) (Z5))] → va_S A s.heap H locs → lv_has ls 5 [(3, .int (iZ (((k : Nat) : Int)))), (0, .ref (re)), (1, .int (iZ (((a : Nat) : Int)))), (2, .int (iZ (((b : Nat) : Int))))] → W zp l ze (zRm 0 0) s zm args below meth zc H locs 0 0 Q (F0 zm 2 ls []) := by
    intro t
    induction t with
    | zero =>
      intro k Z5 H locs ls hkt hP5 hP hD hS hl
      refine lv_iload_n hx hb dX7_changePlaces_2 rfl (lv_at hl 0 rfl) ?_
      refine lv_bipush (v := iZ 6) hx hb dX7_changePlaces_3 (by decide) ?_
      refine zr_icmp_ge hx hb 62 ⟨by omega, by omega⟩ ⟨by omega, by omega⟩ dX7_changePlaces_5 (by decide) (fun h_5 => ?_) (fun h_5 => ?_)
      · exact zr_vret hQ hx hb hr hlk dX7_changePlaces_62 hK hP hD hS (by omega) (by omega) (⟨Z5, rfl, pm_A_ext hP5 (fun i j _ hj => by show (if j < k then pm_sw R a b i j else R i j) = _; rw [if_pos (by omega)])⟩)
      · exfalso; omega
    | succ t ih =>
      intro k Z5 H locs ls hkt hP5 hP hD hS hl
      refine lv_iload_n hx hb dX7_changePlaces_2 rfl (lv_at hl 0 rfl) ?_
      refine lv_bipush (v := iZ 6) hx hb dX7_changePlaces_3 (by decide) ?_
      refine zr_icmp_ge hx hb 62 ⟨by omega, by omega⟩ ⟨by omega, by omega⟩ dX7_changePlaces_5 (by decide) (fun h_5 => ?_) (fun h_5 => ?_)
      · exfalso; omega
      · refine lv_aload_n hx hb dX7_changePlaces_8 rfl (lv_at hl 1 rfl) ?_
        refine va_get (D := D) (ci := 7) (v := .ref (sq)) (C := RX7) (T := TX7) (N := 1) hx hb hts hin7 hown hK hP 0 rfl rfl 0 (by decide) q_f_RX7_9_Residues_square_I (fun _ h9 => h9) rfl dX7_changePlaces_9 ?_
        refine lv_iload_n hx hb dX7_changePlaces_12 rfl (lv_at hl 2 rfl) ?_
        refine lv_bipush (v := iZ 6) hx hb dX7_changePlaces_13 (by decide) ?_
        refine zr_imul hx hb dX7_changePlaces_15 ?_
        refine lv_iload_n hx hb dX7_changePlaces_16 rfl (lv_at hl 0 rfl) ?_
        refine zr_iadd hx hb dX7_changePlaces_17 ?_
        refine zr_iald hx hb hK hP 1 0 rfl rfl (6 * a + k) (by omega) (by omega) (by omega) dX7_changePlaces_18 ?_
        refine lv_istore (lv' := [(4, .int (iZ ((Z5) (6 * a + k)))), (3, .int (iZ (((k : Nat) : Int)))), (0, .ref (re)), (1, .int (iZ (((a : Nat) : Int)))), (2, .int (iZ (((b : Nat) : Int))))]) hx hb dX7_changePlaces_19 hl (by decide) rfl (fun ls hl => ?_)
        refine lv_aload_n hx hb dX7_changePlaces_21 rfl (lv_at hl 2 rfl) ?_
        refine va_get (D := D) (ci := 7) (v := .ref (sq)) (C := RX7) (T := TX7) (N := 1) hx hb hts hin7 hown hK hP 0 rfl rfl 0 (by decide) q_f_RX7_9_Residues_square_I (fun _ h9 => h9) rfl dX7_changePlaces_22 ?_
        refine lv_iload_n hx hb dX7_changePlaces_25 rfl (lv_at hl 3 rfl) ?_
        refine lv_bipush (v := iZ 6) hx hb dX7_changePlaces_26 (by decide) ?_
        refine zr_imul hx hb dX7_changePlaces_28 ?_
        refine lv_iload_n hx hb dX7_changePlaces_29 rfl (lv_at hl 1 rfl) ?_
        refine zr_iadd hx hb dX7_changePlaces_30 ?_
        refine lv_aload_n hx hb dX7_changePlaces_31 rfl (lv_at hl 2 rfl) ?_
        refine va_get (D := D) (ci := 7) (v := .ref (sq)) (C := RX7) (T := TX7) (N := 1) hx hb hts hin7 hown hK hP 0 rfl rfl 0 (by decide) q_f_RX7_9_Residues_square_I (fun _ h9 => h9) rfl dX7_changePlaces_32 ?_
        refine lv_iload_n hx hb dX7_changePlaces_35 rfl (lv_at hl 4 rfl) ?_
        refine lv_bipush (v := iZ 6) hx hb dX7_changePlaces_36 (by decide) ?_
        refine zr_imul hx hb dX7_changePlaces_38 ?_
        refine lv_iload_n hx hb dX7_changePlaces_39 rfl (lv_at hl 1 rfl) ?_
        refine zr_iadd hx hb dX7_changePlaces_40 ?_
        refine zr_iald hx hb hK hP 1 0 rfl rfl (6 * b + k) (by omega) (by omega) (by omega) dX7_changePlaces_41 ?_
        refine zr_iast hx hb hK hP hD hS 1 0 rfl rfl (6 * a + k) (by omega) (by omega) (by omega) dX7_changePlaces_42 (fun H locs hP hD hS => ?_)
        have hP : va_P D vwCl [(re, .inr (7, [.ref (sq)])), (sq, aI cI (36) (zu (Z5) (6 * a + k) ((Z5) (6 * b + k))))] H := hP
        have hD : va_D A [(re, .inr (7, [.ref (sq)])), (sq, aI cI (36) (zu (Z5) (6 * a + k) ((Z5) (6 * b + k))))] := hD
        refine lv_aload_n hx hb dX7_changePlaces_43 rfl (lv_at hl 2 rfl) ?_
        refine va_get (D := D) (ci := 7) (v := .ref (sq)) (C := RX7) (T := TX7) (N := 1) hx hb hts hin7 hown hK hP 0 rfl rfl 0 (by decide) q_f_RX7_9_Residues_square_I (fun _ h9 => h9) rfl dX7_changePlaces_44 ?_
        refine lv_iload_n hx hb dX7_changePlaces_47 rfl (lv_at hl 4 rfl) ?_
        refine lv_bipush (v := iZ 6) hx hb dX7_changePlaces_48 (by decide) ?_
        refine zr_imul hx hb dX7_changePlaces_50 ?_
        refine lv_iload_n hx hb dX7_changePlaces_51 rfl (lv_at hl 1 rfl) ?_
        refine zr_iadd hx hb dX7_changePlaces_52 ?_
        refine lv_iload hx hb dX7_changePlaces_53 (lv_at hl 0 rfl) ?_
        refine zr_iast hx hb hK hP hD hS 1 0 rfl rfl (6 * b + k) (by omega) (by omega) (by omega) dX7_changePlaces_55 (fun H locs hP hD hS => ?_)
        have hP : va_P D vwCl [(re, .inr (7, [.ref (sq)])), (sq, aI cI (36) (zu (zu (Z5) (6 * a + k) ((Z5) (6 * b + k))) (6 * b + k) ((Z5) (6 * a + k))))] H := hP
        have hD : va_D A [(re, .inr (7, [.ref (sq)])), (sq, aI cI (36) (zu (zu (Z5) (6 * a + k) ((Z5) (6 * b + k))) (6 * b + k) ((Z5) (6 * a + k))))] := hD
        refine lv_iinc (v := iZ (((k + 1 : Nat) : Int))) (lv' := [(3, .int (iZ (((k + 1 : Nat) : Int)))), (4, .int (iZ ((Z5) (6 * a + k)))), (0, .ref (re)), (1, .int (iZ (((a : Nat) : Int)))), (2, .int (iZ (((b : Nat) : Int))))]) hx hb dX7_changePlaces_56 hl (k := 1) rfl (by rw [show ((k + 1 : Nat) : Int) = ((k : Nat) : Int) + 1 by omega]; exact iZ_add _ _) (by decide) rfl (fun ls hl => ?_)
        refine lv_goto (tgt := 2) hx hb dX7_changePlaces_59 (by decide) ?_
        exact ih (k + 1) _ H locs ls (by omega) (by by_cases w : k < n; (exact pm_A_sw hP5 hn w ha hb9 hab); exact pm_A_sw2 hP5 hn (by omega) (by omega)) hP hD hS (lv_sub hl [0, 2, 3, 4] rfl)
  refine lv_iconst (v := iZ 0) hx hb dX7_changePlaces_0 rfl ?_
  refine lv_istore_n (lv' := [(3, .int (iZ (0))), (0, .ref (re)), (1, .int (iZ (((a : Nat) : Int)))), (2, .int (iZ (((b : Nat) : Int))))]) hx hb dX7_changePlaces_1 rfl hl (by decide) rfl (fun ls hl => ?_)
  exact lp 6 0 Z s.heap [] ls (by omega) (by rw [pm_swk_0]; exact hPA) hP hD hS (lv_sub hl [0, 1, 2, 3] rfl)

set_option maxHeartbeats 4000000 in
set_option maxRecDepth 100000 in
/-- Residues.clearBelow -/
theorem c_rclear (l : Launch) (D : va_G) (cI cJ cE cF cR : ClassId) (re sq c9 n : Nat) (by9 q9 : Int) (Z : Nat → Int) (R : Nat → Nat → Int) (hn : n ≤ 6) (hc9 : c9 < n) (hq1 : 2 ≤ q9) (hq2 : q9 ≤ 46337) (hby : by9 = R c9 c9 ^ (q9.toNat - 2) % q9) (hPA : pm_A n q9 Z R) : Cv l D (zty cI cJ cE cF cR) yX7_clearBelow wsX7_clearBelow (zRm 0 0) 0 0 [.ref (re), .int (iZ (((c9 : Nat) : Int))), .int (iZ (((n : Nat) : Int))), .int (iZ (by9)), .int (iZ (q9))] [(re, .inr (7, [.ref (sq)])), (sq, aI cI (36) (Z))] (fun w1 => ∃ Z1 : Nat → Int, w1 = [(re, .inr (7, [.ref (sq)])), (sq, aI cI (36) (Z1))] ∧ pm_A n q9 Z1 (pm_cl q9 R c9)) := by
  unfold Cv
  refine zs (Qc := zQv D _ _) (cc := cX7_clearBelow) (maxL := 10) (ret := none) (by decide) rfl (Nat.le_of_ble_eq_true rfl) ?_
  intro zp ze s zm below meth zc ls A args Q hQ hx hb hr hts hown hlk hml hnm hN hA hK hP hD hS hl
  have q_f_RX7_9_Residues_square_I := hts (.fieldLink RX7 9 "LimbSolver$Residues" "square" "[I") (by decide +kernel)
  have hin7 : ∀ w ∈ wsX70, w ∈ wsX7_clearBelow := by decide +kernel
  have hl : lv_has ls 10 [(0, .ref (re)), (1, .int (iZ (((c9 : Nat) : Int)))), (2, .int (iZ (((n : Nat) : Int)))), (3, .int (iZ (by9))), (4, .int (iZ (q9)))] := hl
  have hby0 : 0 ≤ by9 ∧ by9 < q9 := by rw [hby]; exact ⟨Int.emod_nonneg _ (by omega), Int.emod_lt_of_pos _ (by omega)⟩
  have ilp : ∀ (t : Nat) (i : Nat) (Z3 : Nat → Int) (H : Heap) (locs : List Loc) (ls : Array Slot), (i + t = n) → (c9 < i) → (pm_A n q9 Z3 (pm_clk q9 i c9 R c9)) →  va_P D vwCl [(re, .inr (7, [.ref (sq)])), (sq, aI cI (36) (Z3))] H → va_D A [(re, .inr (7, [.ref (sq)])), (sq, aI cI (36) (Z3))] → va_S A s.heap H locs → lv_has ls 10 [(5, .int (iZ (((i : Nat) : Int)))), (0, .ref (re)), (1, .int (iZ (((c9 : Nat) : Int)))), (2, .int (iZ (((n : Nat) : Int)))), (3, .int (iZ (by9))), (4, .int (iZ (q9)))] → W zp l ze (zRm 0 0) s zm args below meth zc H locs 0 0 Q (F0 zm 5 ls []) := by
    intro t
    induction t with
    | zero =>
      intro i Z3 H locs ls hit hic hP3 hP hD hS hl
      refine lv_iload hx hb dX7_clearBelow_5 (lv_at hl 0 rfl) ?_
      refine lv_iload_n hx hb dX7_clearBelow_7 rfl (lv_at hl 3 rfl) ?_
      refine zr_icmp_ge hx hb 117 ⟨by omega, by omega⟩ ⟨by omega, by omega⟩ dX7_clearBelow_8 (by decide) (fun h_8 => ?_) (fun h_8 => ?_)
      · exact zr_vret hQ hx hb hr hlk dX7_clearBelow_117 hK hP hD hS (by omega) (by omega) (⟨Z3, rfl, pm_A_ext hP3 (fun a b h1 h2 => by rw [show i = n by omega]; exact pm_c2 q9 _ h1)⟩)
      · exfalso; omega
    | succ t ih =>
      intro i Z3 H locs ls hit hic hP3 hP hD hS hl
      refine lv_iload hx hb dX7_clearBelow_5 (lv_at hl 0 rfl) ?_
      refine lv_iload_n hx hb dX7_clearBelow_7 rfl (lv_at hl 3 rfl) ?_
      refine zr_icmp_ge hx hb 117 ⟨by omega, by omega⟩ ⟨by omega, by omega⟩ dX7_clearBelow_8 (by decide) (fun h_8 => ?_) (fun h_8 => ?_)
      · exfalso; omega
      · have ihI := ih
        have hic3 := hP3 i c9 (by omega) (by omega)
        have hic4 := hic3.2
        rw [pm_ca _ _ _ _ _ _ (Nat.le_refl c9)] at hic4
        have hmm0 := pm_mul (a := R i c9) (b := by9) hic4.1 (by omega) hby0.1 (by omega)
        refine lv_aload_n hx hb dX7_clearBelow_11 rfl (lv_at hl 1 rfl) ?_
        refine va_get (D := D) (ci := 7) (v := .ref (sq)) (C := RX7) (T := TX7) (N := 1) hx hb hts hin7 hown hK hP 0 rfl rfl 0 (by decide) q_f_RX7_9_Residues_square_I (fun _ h9 => h9) rfl dX7_clearBelow_12 ?_
        refine lv_iload hx hb dX7_clearBelow_15 (lv_at hl 0 rfl) ?_
        refine lv_bipush (v := iZ 6) hx hb dX7_clearBelow_17 (by decide) ?_
        refine zr_imul hx hb dX7_clearBelow_19 ?_
        refine lv_iload_n hx hb dX7_clearBelow_20 rfl (lv_at hl 2 rfl) ?_
        refine zr_iadd hx hb dX7_clearBelow_21 ?_
        refine zr_iald hx hb hK hP 1 0 rfl rfl (6 * i + c9) (by omega) (by omega) (by omega) dX7_clearBelow_22 ?_
        refine zr_eqi (R i c9) (by rw [hic3.1, pm_ca _ _ _ _ _ _ (Nat.le_refl c9)]) ?_
        refine lv_iload_n hx hb dX7_clearBelow_23 rfl (lv_at hl 4 rfl) ?_
        refine zr_imul hx hb dX7_clearBelow_24 ?_
        refine lv_iload hx hb dX7_clearBelow_25 (lv_at hl 5 rfl) ?_
        refine zr_irem hx hb ⟨by omega, by omega⟩ ⟨by omega, by omega⟩ (by omega) (by omega) dX7_clearBelow_27 ?_
        refine zr_topi (fun m9 hm9 => ?_)
        refine lv_istore (lv' := [(6, .int (iZ (m9))), (5, .int (iZ (((i : Nat) : Int)))), (0, .ref (re)), (1, .int (iZ (((c9 : Nat) : Int)))), (2, .int (iZ (((n : Nat) : Int)))), (3, .int (iZ (by9))), (4, .int (iZ (q9)))]) hx hb dX7_clearBelow_28 hl (by decide) rfl (fun ls hl => ?_)
        refine lv_iload_n hx hb dX7_clearBelow_30 rfl (lv_at hl 3 rfl) ?_
        refine lv_istore (lv' := [(7, .int (iZ (((c9 : Nat) : Int)))), (6, .int (iZ (m9))), (5, .int (iZ (((i : Nat) : Int)))), (0, .ref (re)), (1, .int (iZ (((c9 : Nat) : Int)))), (2, .int (iZ (((n : Nat) : Int)))), (3, .int (iZ (by9))), (4, .int (iZ (q9)))]) hx hb dX7_clearBelow_31 hl (by decide) rfl (fun ls hl => ?_)
        have hm90 : 0 ≤ m9 ∧ m9 < q9 := by rw [hm9]; exact ⟨Int.emod_nonneg _ (by omega), Int.emod_lt_of_pos _ (by omega)⟩
        have klp : ∀ (t : Nat) (k : Nat) (Z4 : Nat → Int) (H : Heap) (locs : List Loc) (ls : Array Slot), (k + t = n) → (c9 ≤ k) → (pm_A n q9 Z4 (pm_clk q9 i k R c9)) →  va_P D vwCl [(re, .inr (7, [.ref (sq)])), (sq, aI cI (36) (Z4))] H → va_D A [(re, .inr (7, [.ref (sq)])), (sq, aI cI (36) (Z4))] → va_S A s.heap H locs → lv_has ls 10 [(7, .int (iZ (((k : Nat) : Int)))), (6, .int (iZ (m9))), (5, .int (iZ (((i : Nat) : Int)))), (0, .ref (re)), (1, .int (iZ (((c9 : Nat) : Int)))), (2, .int (iZ (((n : Nat) : Int)))), (3, .int (iZ (by9))), (4, .int (iZ (q9)))] → W zp l ze (zRm 0 0) s zm args below meth zc H locs 0 0 Q (F0 zm 33 ls []) := by
          intro t
          induction t with
          | zero =>
            intro k Z4 H locs ls hkt hkc hP4 hP hD hS hl
            refine lv_iload hx hb dX7_clearBelow_33 (lv_at hl 0 rfl) ?_
            refine lv_iload_n hx hb dX7_clearBelow_35 rfl (lv_at hl 5 rfl) ?_
            refine zr_icmp_ge hx hb 111 ⟨by omega, by omega⟩ ⟨by omega, by omega⟩ dX7_clearBelow_36 (by decide) (fun h_36 => ?_) (fun h_36 => ?_)
            · refine lv_iinc (v := iZ (((i + 1 : Nat) : Int))) (lv' := [(5, .int (iZ (((i + 1 : Nat) : Int)))), (7, .int (iZ (((k : Nat) : Int)))), (6, .int (iZ (m9))), (0, .ref (re)), (1, .int (iZ (((c9 : Nat) : Int)))), (2, .int (iZ (((n : Nat) : Int)))), (3, .int (iZ (by9))), (4, .int (iZ (q9)))]) hx hb dX7_clearBelow_111 hl (k := 2) rfl (by rw [show ((i + 1 : Nat) : Int) = ((i : Nat) : Int) + 1 by omega]; exact iZ_add _ _) (by decide) rfl (fun ls hl => ?_)
              refine lv_goto (tgt := 5) hx hb dX7_clearBelow_114 (by decide) ?_
              exact ihI (i + 1) Z4 H locs ls (by omega) (by omega) (pm_A_ext hP4 (fun a b h1 h2 => by rw [show k = n by omega]; exact pm_c1 q9 _ h2)) hP hD hS (lv_sub hl [0, 3, 4, 5, 6, 7] rfl)
            · exfalso; omega
          | succ t ih =>
            intro k Z4 H locs ls hkt hkc hP4 hP hD hS hl
            refine lv_iload hx hb dX7_clearBelow_33 (lv_at hl 0 rfl) ?_
            refine lv_iload_n hx hb dX7_clearBelow_35 rfl (lv_at hl 5 rfl) ?_
            refine zr_icmp_ge hx hb 111 ⟨by omega, by omega⟩ ⟨by omega, by omega⟩ dX7_clearBelow_36 (by decide) (fun h_36 => ?_) (fun h_36 => ?_)
            · exfalso; omega
            · have hik := hP4 i k (by omega) (by omega)
              have hck := hP4 c9 k (by omega) (by omega)
              have hik2 := hik.2
              have hck2 := hck.2
              rw [pm_ca _ _ _ _ _ _ (Nat.le_refl k)] at hik2
              rw [pm_cr] at hck2
              have hmm := pm_mul (a := m9) (b := R c9 k) (by omega) (by omega) hck2.1 (by omega)
              have htm0 := Int.emod_nonneg (m9 * R c9 k) (show q9 ≠ 0 by omega)
              have htm1 := Int.emod_lt_of_pos (m9 * R c9 k) (show 0 < q9 by omega)
              refine lv_iload hx hb dX7_clearBelow_39 (lv_at hl 1 rfl) ?_
              refine lv_aload_n hx hb dX7_clearBelow_41 rfl (lv_at hl 3 rfl) ?_
              refine va_get (D := D) (ci := 7) (v := .ref (sq)) (C := RX7) (T := TX7) (N := 1) hx hb hts hin7 hown hK hP 0 rfl rfl 0 (by decide) q_f_RX7_9_Residues_square_I (fun _ h9 => h9) rfl dX7_clearBelow_42 ?_
              refine lv_iload_n hx hb dX7_clearBelow_45 rfl (lv_at hl 4 rfl) ?_
              refine lv_bipush (v := iZ 6) hx hb dX7_clearBelow_46 (by decide) ?_
              refine zr_imul hx hb dX7_clearBelow_48 ?_
              refine lv_iload hx hb dX7_clearBelow_49 (lv_at hl 0 rfl) ?_
              refine zr_iadd hx hb dX7_clearBelow_51 ?_
              refine zr_iald hx hb hK hP 1 0 rfl rfl (6 * c9 + k) (by omega) (by omega) (by omega) dX7_clearBelow_52 ?_
              refine zr_eqi (R c9 k) (by rw [hck.1, pm_cr]) ?_
              refine zr_imul hx hb dX7_clearBelow_53 ?_
              refine lv_iload hx hb dX7_clearBelow_54 (lv_at hl 7 rfl) ?_
              refine zr_irem hx hb ⟨by omega, by omega⟩ ⟨by omega, by omega⟩ (by omega) (by omega) dX7_clearBelow_56 ?_
              refine lv_istore (lv' := [(8, .int (iZ (((m9) * (R c9 k)) % (q9)))), (7, .int (iZ (((k : Nat) : Int)))), (6, .int (iZ (m9))), (5, .int (iZ (((i : Nat) : Int)))), (0, .ref (re)), (1, .int (iZ (((c9 : Nat) : Int)))), (2, .int (iZ (((n : Nat) : Int)))), (3, .int (iZ (by9))), (4, .int (iZ (q9)))]) hx hb dX7_clearBelow_57 hl (by decide) rfl (fun ls hl => ?_)
              refine lv_aload_n hx hb dX7_clearBelow_59 rfl (lv_at hl 4 rfl) ?_
              refine va_get (D := D) (ci := 7) (v := .ref (sq)) (C := RX7) (T := TX7) (N := 1) hx hb hts hin7 hown hK hP 0 rfl rfl 0 (by decide) q_f_RX7_9_Residues_square_I (fun _ h9 => h9) rfl dX7_clearBelow_60 ?_
              refine lv_iload hx hb dX7_clearBelow_63 (lv_at hl 3 rfl) ?_
              refine lv_bipush (v := iZ 6) hx hb dX7_clearBelow_65 (by decide) ?_
              refine zr_imul hx hb dX7_clearBelow_67 ?_
              refine lv_iload hx hb dX7_clearBelow_68 (lv_at hl 1 rfl) ?_
              refine zr_iadd hx hb dX7_clearBelow_70 ?_
              refine zr_iald hx hb hK hP 1 0 rfl rfl (6 * i + k) (by omega) (by omega) (by omega) dX7_clearBelow_71 ?_
              refine zr_eqi (R i k) (by rw [hik.1, pm_ca _ _ _ _ _ _ (Nat.le_refl k)]) ?_
              refine lv_iload hx hb dX7_clearBelow_72 (lv_at hl 0 rfl) ?_
              refine zr_isub hx hb dX7_clearBelow_74 ?_
              refine lv_istore (lv' := [(9, .int (iZ ((R i k) - (((m9) * (R c9 k)) % (q9))))), (8, .int (iZ (((m9) * (R c9 k)) % (q9)))), (7, .int (iZ (((k : Nat) : Int)))), (6, .int (iZ (m9))), (5, .int (iZ (((i : Nat) : Int)))), (0, .ref (re)), (1, .int (iZ (((c9 : Nat) : Int)))), (2, .int (iZ (((n : Nat) : Int)))), (3, .int (iZ (by9))), (4, .int (iZ (q9)))]) hx hb dX7_clearBelow_75 hl (by decide) rfl (fun ls hl => ?_)
              refine lv_aload_n hx hb dX7_clearBelow_77 rfl (lv_at hl 5 rfl) ?_
              refine va_get (D := D) (ci := 7) (v := .ref (sq)) (C := RX7) (T := TX7) (N := 1) hx hb hts hin7 hown hK hP 0 rfl rfl 0 (by decide) q_f_RX7_9_Residues_square_I (fun _ h9 => h9) rfl dX7_clearBelow_78 ?_
              refine lv_iload hx hb dX7_clearBelow_81 (lv_at hl 4 rfl) ?_
              refine lv_bipush (v := iZ 6) hx hb dX7_clearBelow_83 (by decide) ?_
              refine zr_imul hx hb dX7_clearBelow_85 ?_
              refine lv_iload hx hb dX7_clearBelow_86 (lv_at hl 2 rfl) ?_
              refine zr_iadd hx hb dX7_clearBelow_88 ?_
              refine lv_iload hx hb dX7_clearBelow_89 (lv_at hl 0 rfl) ?_
              refine zr_if_ge hx hb 102 ⟨by omega, by omega⟩ dX7_clearBelow_91 (by decide) (fun h_91 => ?_) (fun h_91 => ?_)
              · refine lv_iload hx hb dX7_clearBelow_102 (lv_at hl 0 rfl) ?_
                refine zr_eqi ((R i k - m9 * R c9 k) % q9) ((pm_sub hik2.1 hik2.2).2 (by omega)) ?_
                refine zr_iast hx hb hK hP hD hS 1 0 rfl rfl (6 * i + k) (by omega) (by omega) (by omega) dX7_clearBelow_104 (fun H locs hP hD hS => ?_)
                have hP : va_P D vwCl [(re, .inr (7, [.ref (sq)])), (sq, aI cI (36) (zu (Z4) (6 * i + k) ((R i k - m9 * R c9 k) % q9)))] H := hP
                have hD : va_D A [(re, .inr (7, [.ref (sq)])), (sq, aI cI (36) (zu (Z4) (6 * i + k) ((R i k - m9 * R c9 k) % q9)))] := hD
                refine lv_iinc (v := iZ (((k + 1 : Nat) : Int))) (lv' := [(7, .int (iZ (((k + 1 : Nat) : Int)))), (9, .int (iZ ((R i k) - (((m9) * (R c9 k)) % (q9))))), (8, .int (iZ (((m9) * (R c9 k)) % (q9)))), (6, .int (iZ (m9))), (5, .int (iZ (((i : Nat) : Int)))), (0, .ref (re)), (1, .int (iZ (((c9 : Nat) : Int)))), (2, .int (iZ (((n : Nat) : Int)))), (3, .int (iZ (by9))), (4, .int (iZ (q9)))]) hx hb dX7_clearBelow_105 hl (k := 2) rfl (by rw [show ((k + 1 : Nat) : Int) = ((k : Nat) : Int) + 1 by omega]; exact iZ_add _ _) (by decide) rfl (fun ls hl => ?_)
                refine lv_goto (tgt := 33) hx hb dX7_clearBelow_108 (by decide) ?_
                exact ih (k + 1) _ H locs ls (by omega) (by omega) (pm_A_cl hP4 (by omega) hn (by omega) (by omega) hic hkc (by rw [hm9, hby])) hP hD hS (lv_sub hl [0, 3, 4, 5, 6, 7, 8, 9] rfl)
              · refine lv_iload hx hb dX7_clearBelow_94 (lv_at hl 0 rfl) ?_
                refine lv_iload hx hb dX7_clearBelow_96 (lv_at hl 9 rfl) ?_
                refine zr_iadd hx hb dX7_clearBelow_98 ?_
                refine zr_eqi ((R i k - m9 * R c9 k) % q9) ((pm_sub hik2.1 hik2.2).1 (by omega)) ?_
                refine lv_goto (tgt := 104) hx hb dX7_clearBelow_99 (by decide) ?_
                refine zr_iast hx hb hK hP hD hS 1 0 rfl rfl (6 * i + k) (by omega) (by omega) (by omega) dX7_clearBelow_104 (fun H locs hP hD hS => ?_)
                have hP : va_P D vwCl [(re, .inr (7, [.ref (sq)])), (sq, aI cI (36) (zu (Z4) (6 * i + k) ((R i k - m9 * R c9 k) % q9)))] H := hP
                have hD : va_D A [(re, .inr (7, [.ref (sq)])), (sq, aI cI (36) (zu (Z4) (6 * i + k) ((R i k - m9 * R c9 k) % q9)))] := hD
                refine lv_iinc (v := iZ (((k + 1 : Nat) : Int))) (lv' := [(7, .int (iZ (((k + 1 : Nat) : Int)))), (9, .int (iZ ((R i k) - (((m9) * (R c9 k)) % (q9))))), (8, .int (iZ (((m9) * (R c9 k)) % (q9)))), (6, .int (iZ (m9))), (5, .int (iZ (((i : Nat) : Int)))), (0, .ref (re)), (1, .int (iZ (((c9 : Nat) : Int)))), (2, .int (iZ (((n : Nat) : Int)))), (3, .int (iZ (by9))), (4, .int (iZ (q9)))]) hx hb dX7_clearBelow_105 hl (k := 2) rfl (by rw [show ((k + 1 : Nat) : Int) = ((k : Nat) : Int) + 1 by omega]; exact iZ_add _ _) (by decide) rfl (fun ls hl => ?_)
                refine lv_goto (tgt := 33) hx hb dX7_clearBelow_108 (by decide) ?_
                exact ih (k + 1) _ H locs ls (by omega) (by omega) (pm_A_cl hP4 (by omega) hn (by omega) (by omega) hic hkc (by rw [hm9, hby])) hP hD hS (lv_sub hl [0, 3, 4, 5, 6, 7, 8, 9] rfl)
        exact klp (n - c9) c9 Z3 H locs ls (by omega) (Nat.le_refl _) hP3 hP hD hS (lv_sub hl [0, 1, 2, 3, 4, 5, 6, 7] rfl)
  refine lv_iload_n hx hb dX7_clearBelow_0 rfl (lv_at hl 1 rfl) ?_
  refine lv_iconst (v := iZ 1) hx hb dX7_clearBelow_1 rfl ?_
  refine zr_iadd hx hb dX7_clearBelow_2 ?_
  refine zr_eqi (((c9 + 1 : Nat) : Int)) (by omega) ?_
  refine lv_istore (lv' := [(5, .int (iZ (((c9 + 1 : Nat) : Int)))), (0, .ref (re)), (1, .int (iZ (((c9 : Nat) : Int)))), (2, .int (iZ (((n : Nat) : Int)))), (3, .int (iZ (by9))), (4, .int (iZ (q9)))]) hx hb dX7_clearBelow_3 hl (by decide) rfl (fun ls hl => ?_)
  exact ilp (n - (c9 + 1)) (c9 + 1) Z s.heap [] ls (by omega) (by omega) (pm_A_ext hPA (fun a b _ _ => (pm_c0 q9 _ c9 a b).symm)) hP hD hS (lv_sub hl [0, 1, 2, 3, 4, 5] rfl)

set_option maxHeartbeats 4000000 in
set_option maxRecDepth 100000 in
/-- Residues.fill -/
theorem c_rfill (l : Launch) (D : va_G) (cI cJ cE cF cR : ClassId) (re sq eq nu de n : Nat) (q9 : Int) (a b Z : Nat → Int) (V : Nat → Rat) (hn : n ≤ 6) (hq1 : 2 ≤ q9) (hq2 : q9 ≤ 46337) (hok : eq_ok a b) (hV9 : eq_V V a b) : Ci l D (zty cI cJ cE cF cR) yX7_fill wsX7_fill (zRm 3 80) 0 0 [.ref (re), .ref (eq), .int (iZ (q9))] [(re, .inr (7, [.ref (sq)])), (sq, aI cI (36) (Z)), (eq, .inr (4, [.ref (nu), .ref (de), .int (iZ (((n : Nat) : Int)))])), (nu, aJ cJ (42) (a)), (de, aJ cJ (42) (b))] (fun r w1 => ∃ Z1 : Nat → Int, w1 = [(re, .inr (7, [.ref (sq)])), (sq, aI cI (36) (Z1)), (eq, .inr (4, [.ref (nu), .ref (de), .int (iZ (((n : Nat) : Int)))])), (nu, aJ cJ (42) (a)), (de, aJ cJ (42) (b))] ∧ ((r = 0 ∧ ∃ i9 j9 : Nat, i9 < n ∧ j9 < n ∧ ((V (7 * i9 + j9)).den : Int) % q9 = 0) ∨ (r = 1 ∧ ∀ i9 j9 : Nat, i9 < n → j9 < n → Z1 (6 * i9 + j9) = pm_e V q9 (7 * i9 + j9) ∧ b (7 * i9 + j9) % q9 ≠ 0))) := by
  unfold Ci
  refine zs (Qc := zQi D _ _) (cc := cX7_fill) (maxL := 7) (ret := (some .boolean)) (by decide) rfl (Nat.le_of_ble_eq_true rfl) ?_
  intro zp ze s zm below meth zc ls A args Q hQ hx hb hr hts hown hlk hml hnm hN hA hK hP hD hS hl
  have hin4 : ∀ w ∈ wsX40, w ∈ wsX7_fill := by decide +kernel
  have q_f_RX7_9_Residues_square_I := hts (.fieldLink RX7 9 "LimbSolver$Residues" "square" "[I") (by decide +kernel)
  have hin7 : ∀ w ∈ wsX70, w ∈ wsX7_fill := by decide +kernel
  have hl : lv_has ls 7 [(0, .ref (re)), (1, .ref (eq)), (2, .int (iZ (q9)))] := hl
  have ilp : ∀ (t : Nat) (i : Nat) (Z1 : Nat → Int) (H : Heap) (locs : List Loc) (ls : Array Slot), (i + t = n) → (∀ i9 j9 : Nat, i9 < n → j9 < n → i9 < i → Z1 (6 * i9 + j9) = pm_e V q9 (7 * i9 + j9) ∧ b (7 * i9 + j9) % q9 ≠ 0) →  va_P D vwCl [(re, .inr (7, [.ref (sq)])), (sq, aI cI (36) (Z1)), (eq, .inr (4, [.ref (nu), .ref (de), .int (iZ (((n : Nat) : Int)))])), (nu, aJ cJ (42) (a)), (de, aJ cJ (42) (b))] H → va_D A [(re, .inr (7, [.ref (sq)])), (sq, aI cI (36) (Z1)), (eq, .inr (4, [.ref (nu), .ref (de), .int (iZ (((n : Nat) : Int)))])), (nu, aJ cJ (42) (a)), (de, aJ cJ (42) (b))] → va_S A s.heap H locs → lv_has ls 7 [(3, .int (iZ (((i : Nat) : Int)))), (0, .ref (re)), (1, .ref (eq)), (2, .int (iZ (q9)))] → W zp l ze (zRm 3 80) s zm args below meth zc H locs 0 0 Q (F0 zm 2 ls []) := by
    intro t
    induction t with
    | zero =>
      intro i Z1 H locs ls hit hfi hP hD hS hl
      refine lv_iload_n hx hb dX7_fill_2 rfl (lv_at hl 0 rfl) ?_
      refine lv_aload_n hx hb dX7_fill_3 rfl (lv_at hl 2 rfl) ?_
      refine va_getN (D := D) (ci := 4) (v := .int (iZ (((n : Nat) : Int)))) (C := RX4) (T := TX4) (N := 3) hx hb hts hin4 hown hK hP 2 rfl rfl 2 (by decide) (hN.F 0 rfl) (fun _ h9 => h9) rfl dX7_fill_4 ?_
      refine zr_icmp_ge hx hb 105 ⟨by omega, by omega⟩ ⟨by omega, by omega⟩ dX7_fill_7 (by decide) (fun h_7 => ?_) (fun h_7 => ?_)
      · refine lv_iconst (v := iZ 1) hx hb dX7_fill_105 rfl ?_
        exact zr_zret hQ hx hb hr hlk dX7_fill_106 hK hP hD hS (by omega) (by omega) ((by decide)) (⟨Z1, rfl, Or.inr ⟨rfl, fun i9 j9 h1 h2 => hfi i9 j9 h1 h2 (by omega)⟩⟩)
      · exfalso; omega
    | succ t ih =>
      intro i Z1 H locs ls hit hfi hP hD hS hl
      refine lv_iload_n hx hb dX7_fill_2 rfl (lv_at hl 0 rfl) ?_
      refine lv_aload_n hx hb dX7_fill_3 rfl (lv_at hl 2 rfl) ?_
      refine va_getN (D := D) (ci := 4) (v := .int (iZ (((n : Nat) : Int)))) (C := RX4) (T := TX4) (N := 3) hx hb hts hin4 hown hK hP 2 rfl rfl 2 (by decide) (hN.F 0 rfl) (fun _ h9 => h9) rfl dX7_fill_4 ?_
      refine zr_icmp_ge hx hb 105 ⟨by omega, by omega⟩ ⟨by omega, by omega⟩ dX7_fill_7 (by decide) (fun h_7 => ?_) (fun h_7 => ?_)
      · exfalso; omega
      · refine lv_iload_n hx hb dX7_fill_10 rfl (lv_at hl 0 rfl) ?_
        refine lv_bipush (v := iZ 6) hx hb dX7_fill_11 (by decide) ?_
        refine zr_icmp_ge hx hb 105 ⟨by omega, by omega⟩ ⟨by omega, by omega⟩ dX7_fill_13 (by decide) (fun h_13 => ?_) (fun h_13 => ?_)
        · exfalso; omega
        · have ihF := ih
          refine lv_iconst (v := iZ 0) hx hb dX7_fill_16 rfl ?_
          refine lv_istore (lv' := [(4, .int (iZ (0))), (3, .int (iZ (((i : Nat) : Int)))), (0, .ref (re)), (1, .ref (eq)), (2, .int (iZ (q9)))]) hx hb dX7_fill_17 hl (by decide) rfl (fun ls hl => ?_)
          have jlp : ∀ (t : Nat) (j : Nat) (Z1 : Nat → Int) (H : Heap) (locs : List Loc) (ls : Array Slot), (j + t = n) → (∀ i9 j9 : Nat, i9 < n → j9 < n → (i9 < i ∨ (i9 = i ∧ j9 < j)) → Z1 (6 * i9 + j9) = pm_e V q9 (7 * i9 + j9) ∧ b (7 * i9 + j9) % q9 ≠ 0) →  va_P D vwCl [(re, .inr (7, [.ref (sq)])), (sq, aI cI (36) (Z1)), (eq, .inr (4, [.ref (nu), .ref (de), .int (iZ (((n : Nat) : Int)))])), (nu, aJ cJ (42) (a)), (de, aJ cJ (42) (b))] H → va_D A [(re, .inr (7, [.ref (sq)])), (sq, aI cI (36) (Z1)), (eq, .inr (4, [.ref (nu), .ref (de), .int (iZ (((n : Nat) : Int)))])), (nu, aJ cJ (42) (a)), (de, aJ cJ (42) (b))] → va_S A s.heap H locs → lv_has ls 7 [(4, .int (iZ (((j : Nat) : Int)))), (3, .int (iZ (((i : Nat) : Int)))), (0, .ref (re)), (1, .ref (eq)), (2, .int (iZ (q9)))] → W zp l ze (zRm 3 80) s zm args below meth zc H locs 0 0 Q (F0 zm 19 ls []) := by
            intro t
            induction t with
            | zero =>
              intro j Z1 H locs ls hjt hfi hP hD hS hl
              refine lv_iload hx hb dX7_fill_19 (lv_at hl 0 rfl) ?_
              refine lv_aload_n hx hb dX7_fill_21 rfl (lv_at hl 3 rfl) ?_
              refine va_getN (D := D) (ci := 4) (v := .int (iZ (((n : Nat) : Int)))) (C := RX4) (T := TX4) (N := 3) hx hb hts hin4 hown hK hP 2 rfl rfl 2 (by decide) (hN.F 0 rfl) (fun _ h9 => h9) rfl dX7_fill_22 ?_
              refine zr_icmp_ge hx hb 99 ⟨by omega, by omega⟩ ⟨by omega, by omega⟩ dX7_fill_25 (by decide) (fun h_25 => ?_) (fun h_25 => ?_)
              · refine lv_iinc (v := iZ (((i + 1 : Nat) : Int))) (lv' := [(3, .int (iZ (((i + 1 : Nat) : Int)))), (4, .int (iZ (((j : Nat) : Int)))), (0, .ref (re)), (1, .ref (eq)), (2, .int (iZ (q9)))]) hx hb dX7_fill_99 hl (k := 1) rfl (by rw [show ((i + 1 : Nat) : Int) = ((i : Nat) : Int) + 1 by omega]; exact iZ_add _ _) (by decide) rfl (fun ls hl => ?_)
                refine lv_goto (tgt := 2) hx hb dX7_fill_102 (by decide) ?_
                exact ihF (i + 1) Z1 H locs ls (by omega) (fun i9 j9 h1 h2 h3 => hfi i9 j9 h1 h2 (by omega)) hP hD hS (lv_sub hl [0, 2, 3, 4] rfl)
              · exfalso; omega
            | succ t ih =>
              intro j Z1 H locs ls hjt hfi hP hD hS hl
              refine lv_iload hx hb dX7_fill_19 (lv_at hl 0 rfl) ?_
              refine lv_aload_n hx hb dX7_fill_21 rfl (lv_at hl 3 rfl) ?_
              refine va_getN (D := D) (ci := 4) (v := .int (iZ (((n : Nat) : Int)))) (C := RX4) (T := TX4) (N := 3) hx hb hts hin4 hown hK hP 2 rfl rfl 2 (by decide) (hN.F 0 rfl) (fun _ h9 => h9) rfl dX7_fill_22 ?_
              refine zr_icmp_ge hx hb 99 ⟨by omega, by omega⟩ ⟨by omega, by omega⟩ dX7_fill_25 (by decide) (fun h_25 => ?_) (fun h_25 => ?_)
              · exfalso; omega
              · refine lv_iload hx hb dX7_fill_28 (lv_at hl 0 rfl) ?_
                refine lv_bipush (v := iZ 6) hx hb dX7_fill_30 (by decide) ?_
                refine zr_icmp_ge hx hb 99 ⟨by omega, by omega⟩ ⟨by omega, by omega⟩ dX7_fill_32 (by decide) (fun h_32 => ?_) (fun h_32 => ?_)
                · exfalso; omega
                · have hok9 := hok (7 * i + j) (by omega)
                  have hd0 := Int.emod_nonneg (b (7 * i + j)) (show q9 ≠ 0 by omega)
                  have hd1 := Int.emod_lt_of_pos (b (7 * i + j)) (show 0 < q9 by omega)
                  have hn0 := Int.emod_nonneg (a (7 * i + j)) (show q9 ≠ 0 by omega)
                  have hn1 := Int.emod_lt_of_pos (a (7 * i + j)) (show 0 < q9 by omega)
                  have he0 := Int.emod_nonneg ((b (7 * i + j) % q9) ^ (q9.toNat - 2)) (show q9 ≠ 0 by omega)
                  have he1 := Int.emod_lt_of_pos ((b (7 * i + j) % q9) ^ (q9.toNat - 2)) (show 0 < q9 by omega)
                  have hmm := pm_mul (a := a (7 * i + j) % q9) (b := (b (7 * i + j) % q9) ^ (q9.toNat - 2) % q9) hn0 (by omega) he0 (by omega)
                  refine lv_aload_n hx hb dX7_fill_35 rfl (lv_at hl 3 rfl) ?_
                  refine lv_iload_n hx hb dX7_fill_36 rfl (lv_at hl 1 rfl) ?_
                  refine lv_iload hx hb dX7_fill_37 (lv_at hl 0 rfl) ?_
                  refine zc_Vl (As := [.int (iZ (((i : Nat) : Int))), .int (iZ (((j : Nat) : Int)))]) (rest := []) (wr := [(re, .inr (7, [.ref (sq)])), (sq, aI cI (36) (Z1)), (nu, aJ cJ (42) (a))]) ⟨hx, hb, hml, hown, hts⟩ (c_denAt l D cI cJ cE cF cR eq nu de n i j b (by omega) (by omega) hn ⟨by omega, by omega⟩) (cwV 2 hts gX7_fill_X4_denAt rfl rfl rfl (by decide +kernel) ⟨Nat.le_of_ble_eq_true rfl, Nat.le_of_ble_eq_true rfl⟩) hN hK hP hD hS hA [2, 4] [0, 1, 3] rfl rfl (by decide) (by decide) (by decide) (q0 := 0) (ci := 4) rfl rfl rfl rfl hl.1 (Nat.le_of_ble_eq_true rfl) dX7_fill_39 ⟨by decide, by decide⟩ (fun z39 w1 H locs hz39 hp hP hD hS => ?_)
                  obtain ⟨hw9, hr0⟩ := hp
                  subst hw9
                  subst hr0
                  have hP := hP.sub (ws' := [(re, .inr (7, [.ref (sq)])), (sq, aI cI (36) (Z1)), (eq, .inr (4, [.ref (nu), .ref (de), .int (iZ (((n : Nat) : Int)))])), (nu, aJ cJ (42) (a)), (de, aJ cJ (42) (b))]) [0, 1, 3, 2, 4] rfl
                  have hD := hD.sub (ws' := [(re, .inr (7, [.ref (sq)])), (sq, aI cI (36) (Z1)), (eq, .inr (4, [.ref (nu), .ref (de), .int (iZ (((n : Nat) : Int)))])), (nu, aJ cJ (42) (a)), (de, aJ cJ (42) (b))]) [0, 1, 3, 2, 4] (by decide) rfl
                  refine lv_iload_n hx hb dX7_fill_42 rfl (lv_at hl 4 rfl) ?_
                  refine zr_i2l hx hb ⟨by omega, by omega⟩ dX7_fill_43 ?_
                  refine zr_lrem hx hb ⟨by omega, by omega⟩ ⟨by omega, by omega⟩ (by omega) (by omega) dX7_fill_44 ?_
                  refine zr_eql (b (7 * i + j) % q9) (by rfl) ?_
                  refine zr_l2i hx hb dX7_fill_45 ?_
                  refine lv_istore (lv' := [(5, .int (iZ (b (7 * i + j) % q9))), (4, .int (iZ (((j : Nat) : Int)))), (3, .int (iZ (((i : Nat) : Int)))), (0, .ref (re)), (1, .ref (eq)), (2, .int (iZ (q9)))]) hx hb dX7_fill_46 hl (by decide) rfl (fun ls hl => ?_)
                  refine lv_iload hx hb dX7_fill_48 (lv_at hl 0 rfl) ?_
                  refine zr_if_ne hx hb 55 ⟨by omega, by omega⟩ dX7_fill_50 (by decide) (fun h_50 => ?_) (fun h_50 => ?_)
                  · refine lv_aload_n hx hb dX7_fill_55 rfl (lv_at hl 4 rfl) ?_
                    refine lv_iload_n hx hb dX7_fill_56 rfl (lv_at hl 2 rfl) ?_
                    refine lv_iload hx hb dX7_fill_57 (lv_at hl 1 rfl) ?_
                    refine zc_Vl (As := [.int (iZ (((i : Nat) : Int))), .int (iZ (((j : Nat) : Int)))]) (rest := []) (wr := [(re, .inr (7, [.ref (sq)])), (sq, aI cI (36) (Z1)), (de, aJ cJ (42) (b))]) ⟨hx, hb, hml, hown, hts⟩ (c_numAt l D cI cJ cE cF cR eq nu de n i j a (by omega) (by omega) hn ⟨by omega, by omega⟩) (cwV 2 hts gX7_fill_X4_numAt rfl rfl rfl (by decide +kernel) ⟨Nat.le_of_ble_eq_true rfl, Nat.le_of_ble_eq_true rfl⟩) hN hK hP hD hS hA [2, 3] [0, 1, 4] rfl rfl (by decide) (by decide) (by decide) (q0 := 0) (ci := 4) rfl rfl rfl rfl hl.1 (Nat.le_of_ble_eq_true rfl) dX7_fill_59 ⟨by decide, by decide⟩ (fun z59 w1 H locs hz59 hp hP hD hS => ?_)
                    obtain ⟨hw9, hr0⟩ := hp
                    subst hw9
                    subst hr0
                    have hP := hP.sub (ws' := [(re, .inr (7, [.ref (sq)])), (sq, aI cI (36) (Z1)), (eq, .inr (4, [.ref (nu), .ref (de), .int (iZ (((n : Nat) : Int)))])), (nu, aJ cJ (42) (a)), (de, aJ cJ (42) (b))]) [0, 1, 3, 4, 2] rfl
                    have hD := hD.sub (ws' := [(re, .inr (7, [.ref (sq)])), (sq, aI cI (36) (Z1)), (eq, .inr (4, [.ref (nu), .ref (de), .int (iZ (((n : Nat) : Int)))])), (nu, aJ cJ (42) (a)), (de, aJ cJ (42) (b))]) [0, 1, 3, 4, 2] (by decide) rfl
                    refine lv_iload_n hx hb dX7_fill_62 rfl (lv_at hl 5 rfl) ?_
                    refine zr_i2l hx hb ⟨by omega, by omega⟩ dX7_fill_63 ?_
                    refine zc_Sl (As := [.long (lZ (a (7 * i + j))), .long (lZ (q9))]) (rest := []) (wr := [(re, .inr (7, [.ref (sq)])), (sq, aI cI (36) (Z1)), (eq, .inr (4, [.ref (nu), .ref (de), .int (iZ (((n : Nat) : Int)))])), (nu, aJ cJ (42) (a)), (de, aJ cJ (42) (b))]) ⟨hx, hb, hml, hown, hts⟩ (c_floorMod l D cI cJ cE cF cR (a (7 * i + j)) q9 ⟨by omega, by omega⟩ ⟨by omega, by omega⟩ (by omega)) (va_cwS 2 hts gX7_fill_J9_floorMod_f86c9 rfl rfl rfl (by decide +kernel) ⟨Nat.le_of_ble_eq_true rfl, Nat.le_of_ble_eq_true rfl⟩) hN hK hP hD hS hA [] [0, 1, 2, 3, 4] rfl rfl (by decide) (by decide) (by decide) rfl hl.1 (Nat.le_of_ble_eq_true rfl) dX7_fill_64 ⟨by decide, by decide⟩ (fun z64 w1 H locs hz64 hp hP hD hS => ?_)
                    obtain ⟨hw9, hr0⟩ := hp
                    subst hw9
                    subst hr0
                    have hP := hP.sub (ws' := [(re, .inr (7, [.ref (sq)])), (sq, aI cI (36) (Z1)), (eq, .inr (4, [.ref (nu), .ref (de), .int (iZ (((n : Nat) : Int)))])), (nu, aJ cJ (42) (a)), (de, aJ cJ (42) (b))]) [0, 1, 2, 3, 4] rfl
                    have hD := hD.sub (ws' := [(re, .inr (7, [.ref (sq)])), (sq, aI cI (36) (Z1)), (eq, .inr (4, [.ref (nu), .ref (de), .int (iZ (((n : Nat) : Int)))])), (nu, aJ cJ (42) (a)), (de, aJ cJ (42) (b))]) [0, 1, 2, 3, 4] (by decide) rfl
                    refine zr_l2i hx hb dX7_fill_67 ?_
                    refine zr_eqi (a (7 * i + j) % q9) (by rfl) ?_
                    refine lv_istore (lv' := [(6, .int (iZ (a (7 * i + j) % q9))), (5, .int (iZ (b (7 * i + j) % q9))), (4, .int (iZ (((j : Nat) : Int)))), (3, .int (iZ (((i : Nat) : Int)))), (0, .ref (re)), (1, .ref (eq)), (2, .int (iZ (q9)))]) hx hb dX7_fill_68 hl (by decide) rfl (fun ls hl => ?_)
                    refine lv_aload_n hx hb dX7_fill_70 rfl (lv_at hl 4 rfl) ?_
                    refine va_get (D := D) (ci := 7) (v := .ref (sq)) (C := RX7) (T := TX7) (N := 1) hx hb hts hin7 hown hK hP 0 rfl rfl 0 (by decide) q_f_RX7_9_Residues_square_I (fun _ h9 => h9) rfl dX7_fill_71 ?_
                    refine lv_iload_n hx hb dX7_fill_74 rfl (lv_at hl 3 rfl) ?_
                    refine lv_bipush (v := iZ 6) hx hb dX7_fill_75 (by decide) ?_
                    refine zr_imul hx hb dX7_fill_77 ?_
                    refine lv_iload hx hb dX7_fill_78 (lv_at hl 2 rfl) ?_
                    refine zr_iadd hx hb dX7_fill_80 ?_
                    refine lv_iload hx hb dX7_fill_81 (lv_at hl 0 rfl) ?_
                    refine lv_iload hx hb dX7_fill_83 (lv_at hl 1 rfl) ?_
                    refine lv_iload_n hx hb dX7_fill_85 rfl (lv_at hl 6 rfl) ?_
                    refine zc_Si (As := [.int (iZ (b (7 * i + j) % q9)), .int (iZ (q9))]) (rest := [.int (iZ (a (7 * i + j) % q9)), .int (iZ (((((i : Nat) : Int)) * (6)) + (((j : Nat) : Int)))), .ref (sq)]) (wr := [(re, .inr (7, [.ref (sq)])), (sq, aI cI (36) (Z1)), (eq, .inr (4, [.ref (nu), .ref (de), .int (iZ (((n : Nat) : Int)))])), (nu, aJ cJ (42) (a)), (de, aJ cJ (42) (b))]) ⟨hx, hb, hml, hown, hts⟩ (c_inverse l D cI cJ cE cF cR (b (7 * i + j) % q9) q9 hq1 hq2 ⟨by omega, by omega⟩) (va_cwS 2 hts gX7_fill_X7_inverse rfl rfl rfl (by decide +kernel) ⟨Nat.le_of_ble_eq_true rfl, Nat.le_of_ble_eq_true rfl⟩) hN hK hP hD hS hA [] [0, 1, 2, 3, 4] rfl rfl (by decide) (by decide) (by decide) rfl hl.1 (Nat.le_of_ble_eq_true rfl) dX7_fill_86 ⟨by decide, by decide⟩ (fun z86 w1 H locs hz86 hp hP hD hS => ?_)
                    obtain ⟨hw9, hr0⟩ := hp
                    subst hw9
                    subst hr0
                    have hP := hP.sub (ws' := [(re, .inr (7, [.ref (sq)])), (sq, aI cI (36) (Z1)), (eq, .inr (4, [.ref (nu), .ref (de), .int (iZ (((n : Nat) : Int)))])), (nu, aJ cJ (42) (a)), (de, aJ cJ (42) (b))]) [0, 1, 2, 3, 4] rfl
                    have hD := hD.sub (ws' := [(re, .inr (7, [.ref (sq)])), (sq, aI cI (36) (Z1)), (eq, .inr (4, [.ref (nu), .ref (de), .int (iZ (((n : Nat) : Int)))])), (nu, aJ cJ (42) (a)), (de, aJ cJ (42) (b))]) [0, 1, 2, 3, 4] (by decide) rfl
                    refine zr_imul hx hb dX7_fill_89 ?_
                    refine lv_iload_n hx hb dX7_fill_90 rfl (lv_at hl 6 rfl) ?_
                    refine zr_irem hx hb ⟨by omega, by omega⟩ ⟨by omega, by omega⟩ (by omega) (by omega) dX7_fill_91 ?_
                    refine zr_eqi (pm_e V q9 (7 * i + j)) (pm_e_c (hV9 (7 * i + j) (by omega)).1 (hV9 (7 * i + j) (by omega)).2) ?_
                    refine zr_iast hx hb hK hP hD hS 1 0 rfl rfl (6 * i + j) (by omega) (by omega) (by omega) dX7_fill_92 (fun H locs hP hD hS => ?_)
                    have hP : va_P D vwCl [(re, .inr (7, [.ref (sq)])), (sq, aI cI (36) (zu (Z1) (6 * i + j) (pm_e V q9 (7 * i + j)))), (eq, .inr (4, [.ref (nu), .ref (de), .int (iZ (((n : Nat) : Int)))])), (nu, aJ cJ (42) (a)), (de, aJ cJ (42) (b))] H := hP
                    have hD : va_D A [(re, .inr (7, [.ref (sq)])), (sq, aI cI (36) (zu (Z1) (6 * i + j) (pm_e V q9 (7 * i + j)))), (eq, .inr (4, [.ref (nu), .ref (de), .int (iZ (((n : Nat) : Int)))])), (nu, aJ cJ (42) (a)), (de, aJ cJ (42) (b))] := hD
                    refine lv_iinc (v := iZ (((j + 1 : Nat) : Int))) (lv' := [(4, .int (iZ (((j + 1 : Nat) : Int)))), (6, .int (iZ (a (7 * i + j) % q9))), (5, .int (iZ (b (7 * i + j) % q9))), (3, .int (iZ (((i : Nat) : Int)))), (0, .ref (re)), (1, .ref (eq)), (2, .int (iZ (q9)))]) hx hb dX7_fill_93 hl (k := 2) rfl (by rw [show ((j + 1 : Nat) : Int) = ((j : Nat) : Int) + 1 by omega]; exact iZ_add _ _) (by decide) rfl (fun ls hl => ?_)
                    refine lv_goto (tgt := 19) hx hb dX7_fill_96 (by decide) ?_
                    exact ih (j + 1) _ H locs ls (by omega) (fun i9 j9 h1 h2 h3 => by by_cases w : 6 * i9 + j9 = 6 * i + j; (obtain rfl : i9 = i := by omega); (obtain rfl : j9 = j := by omega); (rw [zu_s]; exact ⟨rfl, h_50⟩); (rw [zu_n _ _ w]; exact hfi i9 j9 h1 h2 (by omega))) hP hD hS (lv_sub hl [0, 3, 4, 5, 6] rfl)
                  · refine lv_iconst (v := iZ 0) hx hb dX7_fill_53 rfl ?_
                    exact zr_zret hQ hx hb hr hlk dX7_fill_54 hK hP hD hS (by omega) (by omega) (by omega) (⟨Z1, rfl, Or.inl ⟨rfl, i, j, by omega, by omega, by have := (hV9 (7 * i + j) (by omega)).2; rw [this]; omega⟩⟩)
          exact jlp n 0 Z1 H locs ls (by omega) (fun i9 j9 h1 h2 h3 => hfi i9 j9 h1 h2 (by omega)) hP hD hS (lv_sub hl [0, 1, 2, 3, 4] rfl)
  refine lv_iconst (v := iZ 0) hx hb dX7_fill_0 rfl ?_
  refine lv_istore_n (lv' := [(3, .int (iZ (0))), (0, .ref (re)), (1, .ref (eq)), (2, .int (iZ (q9)))]) hx hb dX7_fill_1 rfl hl (by decide) rfl (fun ls hl => ?_)
  exact ilp n 0 Z s.heap [] ls (by omega) (fun i9 j9 _ _ h3 => absurd h3 (Nat.not_lt_zero i9)) hP hD hS (lv_sub hl [0, 1, 2, 3] rfl)

set_option maxHeartbeats 4000000 in
set_option maxRecDepth 100000 in
/-- Residues.residue -/
theorem c_residue (l : Launch) (D : va_G) (cI cJ cE cF cR : ClassId) (re sq eq nu de n : Nat) (q9 : Int) (a b Z : Nat → Int) (V : Nat → Rat) (hn : n ≤ 6) (hq0 : iR q9) (hok : eq_ok a b) (hV9 : eq_V V a b) : Ci l D (zty cI cJ cE cF cR) yX7_residue wsX7_residue (zRm 4 110) 0 0 [.ref (re), .ref (eq), .int (iZ (q9))] [(re, .inr (7, [.ref (sq)])), (sq, aI cI (36) (Z)), (eq, .inr (4, [.ref (nu), .ref (de), .int (iZ (((n : Nat) : Int)))])), (nu, aJ cJ (42) (a)), (de, aJ cJ (42) (b))] (fun r w1 => ∃ Z1 : Nat → Int, w1 = [(re, .inr (7, [.ref (sq)])), (sq, aI cI (36) (Z1)), (eq, .inr (4, [.ref (nu), .ref (de), .int (iZ (((n : Nat) : Int)))])), (nu, aJ cJ (42) (a)), (de, aJ cJ (42) (b))] ∧ pm_rel V n q9 r) := by
  unfold Ci
  refine zs (Qc := zQi D _ _) (cc := cX7_residue) (maxL := 8) (ret := (some .int)) (by decide) rfl (Nat.le_of_ble_eq_true rfl) ?_
  intro zp ze s zm below meth zc ls A args Q hQ hx hb hr hts hown hlk hml hnm hN hA hK hP hD hS hl
  have q_f_RX7_9_Residues_square_I := hts (.fieldLink RX7 9 "LimbSolver$Residues" "square" "[I") (by decide +kernel)
  have hin7 : ∀ w ∈ wsX70, w ∈ wsX7_residue := by decide +kernel
  have hin4 : ∀ w ∈ wsX40, w ∈ wsX7_residue := by decide +kernel
  have q_methodLink_RX7_29_Lib_Math_min_name := hts (.methodLink RX7 29 Lib.Math.min.name) (by decide +kernel)
  have q_static_Lib_Math_min_name := hts (.static Lib.Math.min.name) (by decide +kernel)
  have q_initialized_java_lang_Math := hts (.initialized "java/lang/Math") (by decide +kernel)
  have q_code_Lib_Math_min_name_Lib_Math_min_code_2_some_in := hts (.code Lib.Math.min.name Lib.Math.min.code 2 (some .int)) (by decide +kernel)
  have hl : lv_has ls 8 [(0, .ref (re)), (1, .ref (eq)), (2, .int (iZ (q9)))] := hl
  by_cases hpr : pm_prime q9
  · have hq1 := hpr.1
    have hq2 := hpr.2.1
    obtain ⟨W0, hW0⟩ : ∃ W0 : Int, W0 = pm_go q9 n n 0 (fun i j => pm_e V q9 (7 * i + j)) 1 := ⟨_, rfl⟩
    have clp : (∀ i j : Nat, i < n → j < n → ((V (7 * i + j)).den : Int) % q9 ≠ 0) → ∀ (t : Nat) (c9 : Nat) (al : Int) (Z1 : Nat → Int) (R : Nat → Nat → Int) (H : Heap) (locs : List Loc) (ls : Array Slot), (c9 + t = n) → (pm_A n q9 Z1 R) → (0 ≤ al ∧ al ≤ q9) → (pm_go q9 n t c9 R al = W0) →  va_P D vwCl [(re, .inr (7, [.ref (sq)])), (sq, aI cI (36) (Z1)), (eq, .inr (4, [.ref (nu), .ref (de), .int (iZ (((n : Nat) : Int)))])), (nu, aJ cJ (42) (a)), (de, aJ cJ (42) (b))] H → va_D A [(re, .inr (7, [.ref (sq)])), (sq, aI cI (36) (Z1)), (eq, .inr (4, [.ref (nu), .ref (de), .int (iZ (((n : Nat) : Int)))])), (nu, aJ cJ (42) (a)), (de, aJ cJ (42) (b))] → va_S A s.heap H locs → lv_has ls 8 [(5, .int (iZ (((c9 : Nat) : Int)))), (4, .int (iZ (al))), (3, .int (iZ (((n : Nat) : Int)))), (0, .ref (re)), (1, .ref (eq)), (2, .int (iZ (q9)))] → W zp l ze (zRm 4 110) s zm args below meth zc H locs 0 0 Q (F0 zm 34 ls []) := by
      intro hden t
      induction t with
      | zero =>
        intro c9 al Z1 R H locs ls hct hPA hal hgo hP hD hS hl
        refine lv_iload hx hb dX7_residue_34 (lv_at hl 0 rfl) ?_
        refine lv_iload_n hx hb dX7_residue_36 rfl (lv_at hl 2 rfl) ?_
        refine zr_icmp_ge hx hb 122 ⟨by omega, by omega⟩ ⟨by omega, by omega⟩ dX7_residue_37 (by decide) (fun h_37 => ?_) (fun h_37 => ?_)
        · refine lv_iload hx hb dX7_residue_122 (lv_at hl 1 rfl) ?_
          exact zr_iret hQ hx hb hr hlk dX7_residue_124 hK hP hD hS (by omega) (by omega) ⟨by omega, by omega⟩ (⟨Z1, rfl, Or.inr (Or.inr ⟨hpr, hden, by rw [← hW0]; exact hgo⟩)⟩)
        · exfalso; omega
      | succ t ih =>
        intro c9 al Z1 R H locs ls hct hPA hal hgo hP hD hS hl
        have j78 : ∀ (R9 : Nat) (al2 : Int) (Z2 : Nat → Int) (H : Heap) (locs : List Loc) (ls : Array Slot), (pm_find R c9 c9 (n - c9) = R9) → (R9 < n) → (pm_A n q9 Z2 (pm_sw R R9 c9)) → (al2 = if R9 = c9 then al else q9 - al) →  va_P D vwCl [(re, .inr (7, [.ref (sq)])), (sq, aI cI (36) (Z2)), (eq, .inr (4, [.ref (nu), .ref (de), .int (iZ (((n : Nat) : Int)))])), (nu, aJ cJ (42) (a)), (de, aJ cJ (42) (b))] H → va_D A [(re, .inr (7, [.ref (sq)])), (sq, aI cI (36) (Z2)), (eq, .inr (4, [.ref (nu), .ref (de), .int (iZ (((n : Nat) : Int)))])), (nu, aJ cJ (42) (a)), (de, aJ cJ (42) (b))] → va_S A s.heap H locs → lv_has ls 8 [(5, .int (iZ (((c9 : Nat) : Int)))), (4, .int (iZ (al2))), (3, .int (iZ (((n : Nat) : Int)))), (0, .ref (re)), (1, .ref (eq)), (2, .int (iZ (q9)))] → W zp l ze (zRm 4 110) s zm args below meth zc H locs 0 0 Q (F0 zm 78 ls []) := by
          intro R9 al2 Z2 H locs ls hR hlt hP2 hl2 hP hD hS hl
          have hgo2 : pm_go q9 n t (c9 + 1) (pm_cl q9 (pm_sw R R9 c9) c9) ((if R9 = c9 then al else q9 - al) * R R9 c9 % q9) = W0 := by
            have hlt2 : pm_find R c9 c9 (n - c9) < n := by omega
            rw [← hgo, ← hR]
            exact (if_pos hlt2).symm
          have hpe : pm_sw R R9 c9 c9 c9 = R R9 c9 := (pm_cc R9 c9 R).symm
          have hpp := (hP2 c9 c9 (by omega) (by omega)).2
          rw [hpe] at hpp
          have hl3 : 0 ≤ al2 ∧ al2 ≤ q9 := by rw [hl2]; split <;> omega
          have hmm1 := pm_mul (a := al2) (b := R R9 c9) hl3.1 (by omega) hpp.1 (by omega)
          refine lv_aload_n hx hb dX7_residue_78 rfl (lv_at hl 3 rfl) ?_
          refine va_get (D := D) (ci := 7) (v := .ref (sq)) (C := RX7) (T := TX7) (N := 1) hx hb hts hin7 hown hK hP 0 rfl rfl 0 (by decide) q_f_RX7_9_Residues_square_I (fun _ h9 => h9) rfl dX7_residue_79 ?_
          refine lv_iload hx hb dX7_residue_82 (lv_at hl 0 rfl) ?_
          refine lv_bipush (v := iZ 6) hx hb dX7_residue_84 (by decide) ?_
          refine zr_imul hx hb dX7_residue_86 ?_
          refine lv_iload hx hb dX7_residue_87 (lv_at hl 0 rfl) ?_
          refine zr_iadd hx hb dX7_residue_89 ?_
          refine zr_iald hx hb hK hP 1 0 rfl rfl (6 * c9 + c9) (by omega) (by omega) (by omega) dX7_residue_90 ?_
          refine zr_eqi (R R9 c9) (by rw [(hP2 c9 c9 (by omega) (by omega)).1]; exact hpe) ?_
          refine lv_istore (lv' := [(7, .int (iZ (R R9 c9))), (5, .int (iZ (((c9 : Nat) : Int)))), (4, .int (iZ (al2))), (3, .int (iZ (((n : Nat) : Int)))), (0, .ref (re)), (1, .ref (eq)), (2, .int (iZ (q9)))]) hx hb dX7_residue_91 hl (by decide) rfl (fun ls hl => ?_)
          refine lv_iload hx hb dX7_residue_93 (lv_at hl 2 rfl) ?_
          refine lv_iload hx hb dX7_residue_95 (lv_at hl 0 rfl) ?_
          refine zr_imul hx hb dX7_residue_97 ?_
          refine lv_iload_n hx hb dX7_residue_98 rfl (lv_at hl 6 rfl) ?_
          refine zr_irem hx hb ⟨by omega, by omega⟩ ⟨by omega, by omega⟩ (by omega) (by omega) dX7_residue_99 ?_
          refine zr_topi (fun al3 hal3 => ?_)
          refine lv_istore (lv' := [(4, .int (iZ (al3))), (7, .int (iZ (R R9 c9))), (5, .int (iZ (((c9 : Nat) : Int)))), (3, .int (iZ (((n : Nat) : Int)))), (0, .ref (re)), (1, .ref (eq)), (2, .int (iZ (q9)))]) hx hb dX7_residue_100 hl (by decide) rfl (fun ls hl => ?_)
          refine lv_aload_n hx hb dX7_residue_102 rfl (lv_at hl 4 rfl) ?_
          refine lv_iload hx hb dX7_residue_103 (lv_at hl 2 rfl) ?_
          refine lv_iload_n hx hb dX7_residue_105 rfl (lv_at hl 3 rfl) ?_
          refine lv_iload hx hb dX7_residue_106 (lv_at hl 1 rfl) ?_
          refine lv_iload_n hx hb dX7_residue_108 rfl (lv_at hl 6 rfl) ?_
          refine zc_Si (As := [.int (iZ (R R9 c9)), .int (iZ (q9))]) (rest := [.int (iZ (((n : Nat) : Int))), .int (iZ (((c9 : Nat) : Int))), .ref (re)]) (wr := [(re, .inr (7, [.ref (sq)])), (sq, aI cI (36) (Z2)), (eq, .inr (4, [.ref (nu), .ref (de), .int (iZ (((n : Nat) : Int)))])), (nu, aJ cJ (42) (a)), (de, aJ cJ (42) (b))]) ⟨hx, hb, hml, hown, hts⟩ (c_inverse l D cI cJ cE cF cR (R R9 c9) q9 hq1 hq2 ⟨by omega, by omega⟩) (va_cwS 2 hts gX7_residue_X7_inverse rfl rfl rfl (by decide +kernel) ⟨Nat.le_of_ble_eq_true rfl, Nat.le_of_ble_eq_true rfl⟩) hN hK hP hD hS hA [] [0, 1, 2, 3, 4] rfl rfl (by decide) (by decide) (by decide) rfl hl.1 (Nat.le_of_ble_eq_true rfl) dX7_residue_109 ⟨by decide, by decide⟩ (fun z109 w1 H locs hz109 hp hP hD hS => ?_)
          obtain ⟨hw9, hr0⟩ := hp
          subst hw9
          subst hr0
          have hP := hP.sub (ws' := [(re, .inr (7, [.ref (sq)])), (sq, aI cI (36) (Z2)), (eq, .inr (4, [.ref (nu), .ref (de), .int (iZ (((n : Nat) : Int)))])), (nu, aJ cJ (42) (a)), (de, aJ cJ (42) (b))]) [0, 1, 2, 3, 4] rfl
          have hD := hD.sub (ws' := [(re, .inr (7, [.ref (sq)])), (sq, aI cI (36) (Z2)), (eq, .inr (4, [.ref (nu), .ref (de), .int (iZ (((n : Nat) : Int)))])), (nu, aJ cJ (42) (a)), (de, aJ cJ (42) (b))]) [0, 1, 2, 3, 4] (by decide) rfl
          refine lv_iload_n hx hb dX7_residue_112 rfl (lv_at hl 6 rfl) ?_
          refine zc_Vv (As := [.int (iZ (((c9 : Nat) : Int))), .int (iZ (((n : Nat) : Int))), .int (iZ ((R R9 c9) ^ (q9.toNat - 2) % q9)), .int (iZ (q9))]) (rest := []) (wr := [(eq, .inr (4, [.ref (nu), .ref (de), .int (iZ (((n : Nat) : Int)))])), (nu, aJ cJ (42) (a)), (de, aJ cJ (42) (b))]) ⟨hx, hb, hml, hown, hts⟩ (c_rclear l D cI cJ cE cF cR re sq c9 n (R R9 c9 ^ (q9.toNat - 2) % q9) q9 Z2 (pm_sw R R9 c9) hn (by omega) hq1 hq2 (by rw [hpe]) hP2) (cwV 4 hts gX7_residue_X7_clearBelow rfl rfl rfl (by decide +kernel) ⟨Nat.le_of_ble_eq_true rfl, Nat.le_of_ble_eq_true rfl⟩) hN hK hP hD hS hA [0, 1] [2, 3, 4] rfl rfl (by decide) (by decide) (by decide) (q0 := 0) (ci := 7) rfl rfl rfl rfl hl.1 (Nat.le_of_ble_eq_true rfl) dX7_residue_113 ⟨by decide, by decide⟩ (fun w1 H locs hp hP hD hS => ?_)
          obtain ⟨Z3, hw9, hP3⟩ := hp
          subst hw9
          have hP := hP.sub (ws' := [(re, .inr (7, [.ref (sq)])), (sq, aI cI (36) (Z3)), (eq, .inr (4, [.ref (nu), .ref (de), .int (iZ (((n : Nat) : Int)))])), (nu, aJ cJ (42) (a)), (de, aJ cJ (42) (b))]) [3, 4, 0, 1, 2] rfl
          have hD := hD.sub (ws' := [(re, .inr (7, [.ref (sq)])), (sq, aI cI (36) (Z3)), (eq, .inr (4, [.ref (nu), .ref (de), .int (iZ (((n : Nat) : Int)))])), (nu, aJ cJ (42) (a)), (de, aJ cJ (42) (b))]) [3, 4, 0, 1, 2] (by decide) rfl
          refine lv_iinc (v := iZ (((c9 + 1 : Nat) : Int))) (lv' := [(5, .int (iZ (((c9 + 1 : Nat) : Int)))), (4, .int (iZ (al3))), (7, .int (iZ (R R9 c9))), (3, .int (iZ (((n : Nat) : Int)))), (0, .ref (re)), (1, .ref (eq)), (2, .int (iZ (q9)))]) hx hb dX7_residue_116 hl (k := 2) rfl (by rw [show ((c9 + 1 : Nat) : Int) = ((c9 : Nat) : Int) + 1 by omega]; exact iZ_add _ _) (by decide) rfl (fun ls hl => ?_)
          refine lv_goto (tgt := 34) hx hb dX7_residue_119 (by decide) ?_
          have hb3 : 0 ≤ al3 ∧ al3 < q9 := by rw [hal3]; exact ⟨Int.emod_nonneg _ (by omega), Int.emod_lt_of_pos _ (by omega)⟩
          exact ih (c9 + 1) al3 Z3 (pm_cl q9 (pm_sw R R9 c9) c9) H locs ls (by omega) hP3 ⟨by omega, by omega⟩ (by rw [hal3, hl2]; exact hgo2) hP hD hS (lv_sub hl [0, 1, 3, 4, 5, 6] rfl)
        refine lv_iload hx hb dX7_residue_34 (lv_at hl 0 rfl) ?_
        refine lv_iload_n hx hb dX7_residue_36 rfl (lv_at hl 2 rfl) ?_
        refine zr_icmp_ge hx hb 122 ⟨by omega, by omega⟩ ⟨by omega, by omega⟩ dX7_residue_37 (by decide) (fun h_37 => ?_) (fun h_37 => ?_)
        · exfalso; omega
        · refine lv_aload_n hx hb dX7_residue_40 rfl (lv_at hl 3 rfl) ?_
          refine lv_iload hx hb dX7_residue_41 (lv_at hl 0 rfl) ?_
          refine lv_iload_n hx hb dX7_residue_43 rfl (lv_at hl 2 rfl) ?_
          refine zc_Vi (As := [.int (iZ (((c9 : Nat) : Int))), .int (iZ (((n : Nat) : Int)))]) (rest := []) (wr := [(eq, .inr (4, [.ref (nu), .ref (de), .int (iZ (((n : Nat) : Int)))])), (nu, aJ cJ (42) (a)), (de, aJ cJ (42) (b))]) ⟨hx, hb, hml, hown, hts⟩ (c_rfirst l D cI cJ cE cF cR re sq c9 n q9 Z1 R hn (by omega) hq2 hPA) (cwV 2 hts gX7_residue_X7_firstRowWith rfl rfl rfl (by decide +kernel) ⟨Nat.le_of_ble_eq_true rfl, Nat.le_of_ble_eq_true rfl⟩) hN hK hP hD hS hA [0, 1] [2, 3, 4] rfl rfl (by decide) (by decide) (by decide) (q0 := 0) (ci := 7) rfl rfl rfl rfl hl.1 (Nat.le_of_ble_eq_true rfl) dX7_residue_44 ⟨by decide, by decide⟩ (fun rf w1 H locs hz44 hp hP hD hS => ?_)
          obtain ⟨hw9, hrf⟩ := hp
          subst hw9
          have hP := hP.sub (ws' := [(re, .inr (7, [.ref (sq)])), (sq, aI cI (36) (Z1)), (eq, .inr (4, [.ref (nu), .ref (de), .int (iZ (((n : Nat) : Int)))])), (nu, aJ cJ (42) (a)), (de, aJ cJ (42) (b))]) [3, 4, 0, 1, 2] rfl
          have hD := hD.sub (ws' := [(re, .inr (7, [.ref (sq)])), (sq, aI cI (36) (Z1)), (eq, .inr (4, [.ref (nu), .ref (de), .int (iZ (((n : Nat) : Int)))])), (nu, aJ cJ (42) (a)), (de, aJ cJ (42) (b))]) [3, 4, 0, 1, 2] (by decide) rfl
          refine lv_istore (lv' := [(6, .int (iZ (rf))), (5, .int (iZ (((c9 : Nat) : Int)))), (4, .int (iZ (al))), (3, .int (iZ (((n : Nat) : Int)))), (0, .ref (re)), (1, .ref (eq)), (2, .int (iZ (q9)))]) hx hb dX7_residue_47 hl (by decide) rfl (fun ls hl => ?_)
          refine lv_iload hx hb dX7_residue_49 (lv_at hl 0 rfl) ?_
          refine lv_iconst (v := iZ (-1)) hx hb dX7_residue_51 rfl ?_
          refine zr_icmp_ne hx hb 57 (by rcases hrf with ⟨q1, q2⟩ | ⟨q1, q2⟩ <;> rw [q2] <;> exact ⟨by omega, by omega⟩) (by decide) dX7_residue_52 (by decide) (fun h_52 => ?_) (fun h_52 => ?_)
          · have hrf2 : pm_find R c9 c9 (n - c9) < n ∧ rf = ((pm_find R c9 c9 (n - c9) : Nat) : Int) := by rcases hrf with q | ⟨_, q⟩; exact q; exact absurd q h_52
            obtain ⟨hRl, hRe⟩ := hrf2
            generalize hR9 : pm_find R c9 c9 (n - c9) = R9 at hRl hRe
            refine lv_iload hx hb dX7_residue_57 (lv_at hl 0 rfl) ?_
            refine zr_eqi (((R9 : Nat) : Int)) hRe ?_
            refine lv_iload hx hb dX7_residue_59 (lv_at hl 1 rfl) ?_
            refine zr_icmp_eq hx hb 78 ⟨by omega, by omega⟩ ⟨by omega, by omega⟩ dX7_residue_61 (by decide) (fun h_61 => ?_) (fun h_61 => ?_)
            · exact j78 R9 al Z1 H locs ls hR9 hRl (by rw [show R9 = c9 by omega, pm_sw_same]; exact hPA) (by rw [if_pos (by omega)]) hP hD hS (lv_sub hl [1, 2, 3, 4, 5, 6] rfl)
            · have hRc : R9 ≠ c9 := by omega
              refine lv_aload_n hx hb dX7_residue_64 rfl (lv_at hl 4 rfl) ?_
              refine lv_iload hx hb dX7_residue_65 (lv_at hl 0 rfl) ?_
              refine zr_eqi (((R9 : Nat) : Int)) hRe ?_
              refine lv_iload hx hb dX7_residue_67 (lv_at hl 1 rfl) ?_
              refine zc_Vv (As := [.int (iZ (((R9 : Nat) : Int))), .int (iZ (((c9 : Nat) : Int)))]) (rest := []) (wr := [(eq, .inr (4, [.ref (nu), .ref (de), .int (iZ (((n : Nat) : Int)))])), (nu, aJ cJ (42) (a)), (de, aJ cJ (42) (b))]) ⟨hx, hb, hml, hown, hts⟩ (c_rchange l D cI cJ cE cF cR re sq R9 c9 n q9 Z1 R hn (by omega) (by omega) hRc hPA) (cwV 2 hts gX7_residue_X7_changePlaces rfl rfl rfl (by decide +kernel) ⟨Nat.le_of_ble_eq_true rfl, Nat.le_of_ble_eq_true rfl⟩) hN hK hP hD hS hA [0, 1] [2, 3, 4] rfl rfl (by decide) (by decide) (by decide) (q0 := 0) (ci := 7) rfl rfl rfl rfl hl.1 (Nat.le_of_ble_eq_true rfl) dX7_residue_69 ⟨by decide, by decide⟩ (fun w1 H locs hp hP hD hS => ?_)
              obtain ⟨Z2, hw9, hP2⟩ := hp
              subst hw9
              have hP := hP.sub (ws' := [(re, .inr (7, [.ref (sq)])), (sq, aI cI (36) (Z2)), (eq, .inr (4, [.ref (nu), .ref (de), .int (iZ (((n : Nat) : Int)))])), (nu, aJ cJ (42) (a)), (de, aJ cJ (42) (b))]) [3, 4, 0, 1, 2] rfl
              have hD := hD.sub (ws' := [(re, .inr (7, [.ref (sq)])), (sq, aI cI (36) (Z2)), (eq, .inr (4, [.ref (nu), .ref (de), .int (iZ (((n : Nat) : Int)))])), (nu, aJ cJ (42) (a)), (de, aJ cJ (42) (b))]) [3, 4, 0, 1, 2] (by decide) rfl
              refine lv_iload_n hx hb dX7_residue_72 rfl (lv_at hl 6 rfl) ?_
              refine lv_iload hx hb dX7_residue_73 (lv_at hl 2 rfl) ?_
              refine zr_isub hx hb dX7_residue_75 ?_
              refine lv_istore (lv' := [(4, .int (iZ ((q9) - (al)))), (6, .int (iZ (rf))), (5, .int (iZ (((c9 : Nat) : Int)))), (3, .int (iZ (((n : Nat) : Int)))), (0, .ref (re)), (1, .ref (eq)), (2, .int (iZ (q9)))]) hx hb dX7_residue_76 hl (by decide) rfl (fun ls hl => ?_)
              exact j78 R9 _ Z2 H locs ls hR9 hRl hP2 (by rw [if_neg hRc]) hP hD hS (lv_sub hl [2, 0, 3, 4, 5, 6] rfl)
          · refine lv_iconst (v := iZ 0) hx hb dX7_residue_55 rfl ?_
            exact zr_iret hQ hx hb hr hlk dX7_residue_56 hK hP hD hS (by omega) (by omega) (by decide) (⟨Z1, rfl, Or.inr (Or.inr ⟨hpr, hden, by rw [← hW0, ← hgo]; exact (if_neg (show ¬ pm_find R c9 c9 (n - c9) < n by rcases hrf with ⟨_, q⟩ | ⟨q, _⟩; omega; exact q)).symm⟩)⟩)
    refine lv_iload_n hx hb dX7_residue_0 rfl (lv_at hl 2 rfl) ?_
    refine zc_Si (As := [.int (iZ (q9))]) (rest := []) (wr := [(re, .inr (7, [.ref (sq)])), (sq, aI cI (36) (Z)), (eq, .inr (4, [.ref (nu), .ref (de), .int (iZ (((n : Nat) : Int)))])), (nu, aJ cJ (42) (a)), (de, aJ cJ (42) (b))]) ⟨hx, hb, hml, hown, hts⟩ (c_rprime l D cI cJ cE cF cR q9 hq0) (va_cwS 1 hts gX7_residue_X7_isPrime rfl rfl rfl (by decide +kernel) ⟨Nat.le_of_ble_eq_true rfl, Nat.le_of_ble_eq_true rfl⟩) hN hK hP hD hS hA [] [0, 1, 2, 3, 4] rfl rfl (by decide) (by decide) (by decide) rfl hl.1 (Nat.le_of_ble_eq_true rfl) dX7_residue_1 ⟨by decide, by decide⟩ (fun qp w1 H locs hz1 hp hP hD hS => ?_)
    obtain ⟨hw9, hq⟩ := hp
    subst hw9
    have hP := hP.sub (ws' := [(re, .inr (7, [.ref (sq)])), (sq, aI cI (36) (Z)), (eq, .inr (4, [.ref (nu), .ref (de), .int (iZ (((n : Nat) : Int)))])), (nu, aJ cJ (42) (a)), (de, aJ cJ (42) (b))]) [0, 1, 2, 3, 4] rfl
    have hD := hD.sub (ws' := [(re, .inr (7, [.ref (sq)])), (sq, aI cI (36) (Z)), (eq, .inr (4, [.ref (nu), .ref (de), .int (iZ (((n : Nat) : Int)))])), (nu, aJ cJ (42) (a)), (de, aJ cJ (42) (b))]) [0, 1, 2, 3, 4] (by decide) rfl
    refine zr_if_eq hx hb 16 (by rcases hq with ⟨_, q⟩ | ⟨_, q⟩ <;> rw [q] <;> decide) dX7_residue_4 (by decide) (fun h_4 => ?_) (fun h_4 => ?_)
    · exfalso; rcases hq with ⟨_, q⟩ | ⟨q, _⟩; omega; exact q hpr
    · refine lv_aload_n hx hb dX7_residue_7 rfl (lv_at hl 0 rfl) ?_
      refine lv_aload_n hx hb dX7_residue_8 rfl (lv_at hl 1 rfl) ?_
      refine lv_iload_n hx hb dX7_residue_9 rfl (lv_at hl 2 rfl) ?_
      refine zc_Vi (As := [.ref (eq), .int (iZ (q9))]) (rest := []) (wr := []) ⟨hx, hb, hml, hown, hts⟩ (c_rfill l D cI cJ cE cF cR re sq eq nu de n q9 a b Z V hn hq1 hq2 hok hV9) (cwV 2 hts gX7_residue_X7_fill rfl rfl rfl (by decide +kernel) ⟨Nat.le_of_ble_eq_true rfl, Nat.le_of_ble_eq_true rfl⟩) hN hK hP hD hS hA [0, 1, 2, 3, 4] [] rfl rfl (by decide) (by decide) (by decide) (q0 := 0) (ci := 7) rfl rfl rfl rfl hl.1 (Nat.le_of_ble_eq_true rfl) dX7_residue_10 ⟨by decide, by decide⟩ (fun qf w1 H locs hz10 hp hP hD hS => ?_)
      obtain ⟨Z1, hw9, hqf⟩ := hp
      subst hw9
      have hP := hP.sub (ws' := [(re, .inr (7, [.ref (sq)])), (sq, aI cI (36) (Z1)), (eq, .inr (4, [.ref (nu), .ref (de), .int (iZ (((n : Nat) : Int)))])), (nu, aJ cJ (42) (a)), (de, aJ cJ (42) (b))]) [0, 1, 2, 3, 4] rfl
      have hD := hD.sub (ws' := [(re, .inr (7, [.ref (sq)])), (sq, aI cI (36) (Z1)), (eq, .inr (4, [.ref (nu), .ref (de), .int (iZ (((n : Nat) : Int)))])), (nu, aJ cJ (42) (a)), (de, aJ cJ (42) (b))]) [0, 1, 2, 3, 4] (by decide) rfl
      refine zr_if_ne hx hb 18 (by rcases hqf with ⟨q, _⟩ | ⟨q, _⟩ <;> rw [q] <;> decide) dX7_residue_13 (by decide) (fun h_13 => ?_) (fun h_13 => ?_)
      · refine lv_aload_n hx hb dX7_residue_18 rfl (lv_at hl 1 rfl) ?_
        refine va_getN (D := D) (ci := 4) (v := .int (iZ (((n : Nat) : Int)))) (C := RX4) (T := TX4) (N := 3) hx hb hts hin4 hown hK hP 2 rfl rfl 2 (by decide) (hN.F 0 rfl) (fun _ h9 => h9) rfl dX7_residue_19 ?_
        refine lv_bipush (v := iZ 6) hx hb dX7_residue_22 (by decide) ?_
        refine zr_mmin hx hb (hml.trans hl.1.symm) hown q_methodLink_RX7_29_Lib_Math_min_name q_static_Lib_Math_min_name q_initialized_java_lang_Math q_code_Lib_Math_min_name_Lib_Math_min_code_2_some_in (Nat.le_of_ble_eq_true rfl) (Nat.le_of_ble_eq_true rfl) (Nat.zero_le _) (Nat.zero_le _) ⟨by omega, by omega⟩ (by decide) dX7_residue_24 ?_
        refine zr_eqi (((n : Nat) : Int)) (by split <;> omega) ?_
        refine lv_istore_n (lv' := [(3, .int (iZ (((n : Nat) : Int)))), (0, .ref (re)), (1, .ref (eq)), (2, .int (iZ (q9)))]) hx hb dX7_residue_27 rfl hl (by decide) rfl (fun ls hl => ?_)
        refine lv_iconst (v := iZ 1) hx hb dX7_residue_28 rfl ?_
        refine lv_istore (lv' := [(4, .int (iZ (1))), (3, .int (iZ (((n : Nat) : Int)))), (0, .ref (re)), (1, .ref (eq)), (2, .int (iZ (q9)))]) hx hb dX7_residue_29 hl (by decide) rfl (fun ls hl => ?_)
        refine lv_iconst (v := iZ 0) hx hb dX7_residue_31 rfl ?_
        refine zr_eqi (((0 : Nat) : Int)) (by rfl) ?_
        refine lv_istore (lv' := [(5, .int (iZ (((0 : Nat) : Int)))), (4, .int (iZ (1))), (3, .int (iZ (((n : Nat) : Int)))), (0, .ref (re)), (1, .ref (eq)), (2, .int (iZ (q9)))]) hx hb dX7_residue_32 hl (by decide) rfl (fun ls hl => ?_)
        have hqg : ∀ i9 j9 : Nat, i9 < n → j9 < n → Z1 (6 * i9 + j9) = pm_e V q9 (7 * i9 + j9) ∧ b (7 * i9 + j9) % q9 ≠ 0 := by rcases hqf with ⟨q, _⟩ | ⟨_, q⟩; omega; exact q
        exact clp (fun i j h1 h2 => by rw [(hV9 (7 * i + j) (by omega)).2]; exact (hqg i j h1 h2).2) n 0 1 Z1 (fun i j => pm_e V q9 (7 * i + j)) H locs ls (by omega) (fun i j h1 h2 => ⟨(hqg i j h1 h2).1, pm_e_b V _ (by omega)⟩) ⟨by decide, by omega⟩ hW0.symm hP hD hS (lv_sub hl [0, 1, 2, 3, 4, 5] rfl)
      · refine lv_iconst (v := iZ (-1)) hx hb dX7_residue_16 rfl ?_
        exact zr_iret hQ hx hb hr hlk dX7_residue_17 hK hP hD hS (by omega) (by omega) (by decide) (⟨Z1, rfl, Or.inr (Or.inl ⟨hpr, by rcases hqf with ⟨_, q⟩ | ⟨q, _⟩; exact q; omega, rfl⟩)⟩)
  · refine lv_iload_n hx hb dX7_residue_0 rfl (lv_at hl 2 rfl) ?_
    refine zc_Si (As := [.int (iZ (q9))]) (rest := []) (wr := [(re, .inr (7, [.ref (sq)])), (sq, aI cI (36) (Z)), (eq, .inr (4, [.ref (nu), .ref (de), .int (iZ (((n : Nat) : Int)))])), (nu, aJ cJ (42) (a)), (de, aJ cJ (42) (b))]) ⟨hx, hb, hml, hown, hts⟩ (c_rprime l D cI cJ cE cF cR q9 hq0) (va_cwS 1 hts gX7_residue_X7_isPrime rfl rfl rfl (by decide +kernel) ⟨Nat.le_of_ble_eq_true rfl, Nat.le_of_ble_eq_true rfl⟩) hN hK hP hD hS hA [] [0, 1, 2, 3, 4] rfl rfl (by decide) (by decide) (by decide) rfl hl.1 (Nat.le_of_ble_eq_true rfl) dX7_residue_1 ⟨by decide, by decide⟩ (fun qp w1 H locs hz1 hp hP hD hS => ?_)
    obtain ⟨hw9, hq⟩ := hp
    subst hw9
    have hP := hP.sub (ws' := [(re, .inr (7, [.ref (sq)])), (sq, aI cI (36) (Z)), (eq, .inr (4, [.ref (nu), .ref (de), .int (iZ (((n : Nat) : Int)))])), (nu, aJ cJ (42) (a)), (de, aJ cJ (42) (b))]) [0, 1, 2, 3, 4] rfl
    have hD := hD.sub (ws' := [(re, .inr (7, [.ref (sq)])), (sq, aI cI (36) (Z)), (eq, .inr (4, [.ref (nu), .ref (de), .int (iZ (((n : Nat) : Int)))])), (nu, aJ cJ (42) (a)), (de, aJ cJ (42) (b))]) [0, 1, 2, 3, 4] (by decide) rfl
    refine zr_if_eq hx hb 16 (by rcases hq with ⟨_, q⟩ | ⟨_, q⟩ <;> rw [q] <;> decide) dX7_residue_4 (by decide) (fun h_4 => ?_) (fun h_4 => ?_)
    · refine lv_iconst (v := iZ (-1)) hx hb dX7_residue_16 rfl ?_
      exact zr_iret hQ hx hb hr hlk dX7_residue_17 hK hP hD hS (by omega) (by omega) (by decide) (⟨Z, rfl, Or.inl ⟨hpr, rfl⟩⟩)
    · exfalso; rcases hq with ⟨q, _⟩ | ⟨_, q⟩; exact hpr q; omega
