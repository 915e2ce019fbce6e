theorem lZ_or {x y : Int} (k : Nat) (hk : k < 63) (hx : 0 ≤ x) (hy : 0 ≤ y ∧ y < 2 ^ k) : lZ (x * 2 ^ k) ||| lZ y = lZ (x * 2 ^ k + y) := by
  obtain ⟨a, rfl⟩ : ∃ a : Nat, x = a := ⟨x.toNat, by omega⟩
  obtain ⟨b, rfl⟩ : ∃ b : Nat, y = b := ⟨y.toNat, by omega⟩
  have hb : b < 2 ^ k := by
    have h := hy.2
    have h2 : (2 ^ k : Int) = ((2 ^ k : Nat) : Int) := by simp
    rw [h2] at h
    omega
  apply Int64.toBitVec_inj.mp
  show BitVec.ofInt 64 (a * 2 ^ k) ||| BitVec.ofInt 64 b = BitVec.ofInt 64 (a * 2 ^ k + b)
  have e1 : ((a : Int) * 2 ^ k) = ((2 ^ k * a : Nat) : Int) := by rw [Int.natCast_mul, Int.mul_comm]; simp
  rw [e1, ← Int.natCast_add, BitVec.ofInt_natCast, BitVec.ofInt_natCast, BitVec.ofInt_natCast, ← BitVec.ofNat_or, Nat.two_pow_add_eq_or_of_lt hb]
theorem iZ_sh31 : ∀ k : Fin 32, (iZ (k : Nat) &&& 31).toBitVec.smod 32 = BitVec.ofNat 32 k := by decide +kernel
theorem iZ_sh31u : ∀ k : Fin 32, (((iZ (k : Nat)).toUInt32 &&& Int32.toUInt32 31).toBitVec % 32).toNat = k := by decide +kernel
theorem iZ_shl (a : Int) {k : Nat} (hk : k < 32) : iZ a <<< (iZ k &&& 31) = iZ (a * 2 ^ k) := by
  apply Int32.toBitVec_inj.mp
  show (iZ a).toBitVec <<< ((iZ k &&& 31).toBitVec.smod 32) = _
  rw [iZ_sh31 ⟨k, hk⟩]
  show (BitVec.ofInt 32 a) <<< (BitVec.ofNat 32 k) = BitVec.ofInt 32 (a * 2 ^ k)
  rw [BitVec.ofInt_mul, BitVec.shiftLeft_eq', BitVec.toNat_ofNat, Nat.mod_eq_of_lt (by omega), BitVec.shiftLeft_eq_mul_twoPow]
  congr 1
  apply BitVec.eq_of_toNat_eq
  rw [BitVec.toNat_twoPow, BitVec.toNat_ofInt]
  have : (2 ^ k : Int) = ((2 ^ k : Nat) : Int) := by simp
  rw [this]
  omega
theorem iZ_ushr {a : Int} (ha : iR a) (a0 : 0 ≤ a) {k : Nat} (hk : k < 32) : ((iZ a).toUInt32 >>> ((iZ k).toUInt32 &&& Int32.toUInt32 31)).toInt32 = iZ (a / 2 ^ k) := by
  apply Int32.toBitVec_inj.mp
  show (iZ a).toBitVec >>> ((((iZ k).toUInt32 &&& Int32.toUInt32 31).toBitVec % 32)) = BitVec.ofInt 32 (a / 2 ^ k)
  apply BitVec.eq_of_toNat_eq
  rw [BitVec.ushiftRight_eq', BitVec.toNat_ushiftRight, iZ_sh31u ⟨k, hk⟩]
  show (BitVec.ofInt 32 a).toNat >>> k = _
  rw [BitVec.toNat_ofInt, BitVec.toNat_ofInt, Nat.shiftRight_eq_div_pow]
  obtain ⟨n, rfl⟩ : ∃ n : Nat, a = n := ⟨a.toNat, by omega⟩
  have h1 : (2 ^ k : Int) = ((2 ^ k : Nat) : Int) := by simp
  have h3 := ha.2
  rw [h1]
  have h4 : 0 ≤ (n : Int) / ((2 ^ k : Nat) : Int) := Int.ediv_nonneg (Int.natCast_nonneg n) (Int.natCast_nonneg (2 ^ k))
  have h5 : (n : Int) / ((2 ^ k : Nat) : Int) ≤ n := Int.ediv_le_self _ (Int.natCast_nonneg n)
  rw [Int.emod_eq_of_lt (by omega) (by omega), Int.emod_eq_of_lt h4 (by omega), ← Int.natCast_ediv]
  rfl
theorem iZ_shr {a : Int} (ha : iR a) {k : Nat} (hk : k < 32) : iZ a >>> (iZ k &&& 31) = iZ (a / 2 ^ k) := by
  apply Int32.toInt_inj.mp
  have h1 : (iZ a >>> (iZ k &&& 31)).toInt = a / 2 ^ k := by
    show ((iZ a).toBitVec.sshiftRight' ((iZ k &&& 31).toBitVec.smod 32)).toInt = _
    rw [iZ_sh31 ⟨k, hk⟩, BitVec.sshiftRight_eq', BitVec.toInt_sshiftRight, BitVec.toNat_ofNat, Nat.mod_eq_of_lt (by omega)]
    show (iZ a).toInt >>> k = _
    rw [iZ_toInt ha, Int.shiftRight_eq_div_pow]
    simp
  rw [h1]
  have hp : (1 : Int) ≤ 2 ^ k := Int.pow_pos (by decide)
  have h2 : a / 2 ^ k ≤ 2147483647 := by
    by_cases q : a < 0
    · have := Int.ediv_neg_of_neg_of_pos q (show (0 : Int) < 2 ^ k by omega); omega
    · have := Int.ediv_le_self (2 ^ k) (show 0 ≤ a by omega); have := ha.2; omega
  have h3 : -2147483648 ≤ a / 2 ^ k := by
    rw [Int.le_ediv_iff_mul_le (by omega)]
    have h5 : (-2147483648 : Int) * 2 ^ k ≤ -2147483648 * 1 := Int.mul_le_mul_of_nonpos_left (by decide) hp
    have := ha.1
    omega
  rw [iZ_toInt ⟨h3, by omega⟩]
theorem iZ_mask (a : Int) (k : Nat) (hk : k < 32) : iZ a &&& iZ (2 ^ k - 1) = iZ (a % 2 ^ k) := by
  apply Int32.toBitVec_inj.mp
  show BitVec.ofInt 32 a &&& BitVec.ofInt 32 (2 ^ k - 1) = BitVec.ofInt 32 (a % 2 ^ k)
  have e1 : BitVec.ofInt 32 (2 ^ k - 1 : Int) = BitVec.ofNat 32 (2 ^ k - 1) := by
    rw [← BitVec.ofInt_natCast]
    congr 1
    have := Nat.two_pow_pos k
    rw [Int.natCast_sub this]
    simp
  rw [e1]
  apply BitVec.eq_of_toNat_eq
  rw [BitVec.toNat_and, BitVec.toNat_ofNat, BitVec.toNat_ofInt, BitVec.toNat_ofInt]
  have h2 : (2 ^ k - 1) % 2 ^ 32 = 2 ^ k - 1 := Nat.mod_eq_of_lt (by
    have := Nat.pow_lt_pow_right (a := 2) (by decide) (show k < 32 by omega)
    omega)
  rw [h2, Nat.and_two_pow_sub_one_eq_mod]
  have hp : (0 : Int) < 2 ^ k := Int.pow_pos (by decide)
  have hlt : (2 : Int) ^ k < 2 ^ 32 := by
    have := Nat.pow_lt_pow_right (a := 2) (by decide) (show k < 32 by omega)
    exact_mod_cast this
  have hm0 : 0 ≤ a % 2 ^ k := Int.emod_nonneg _ (Int.ne_of_gt hp)
  have hm1 : a % 2 ^ k < 2 ^ k := Int.emod_lt_of_pos _ hp
  have h3 : a % (2 ^ k) % ((2 ^ 32 : Nat) : Int) = a % 2 ^ k := Int.emod_eq_of_lt hm0 (by
    have : ((2 ^ 32 : Nat) : Int) = 2 ^ 32 := by simp
    rw [this]; omega)
  rw [h3]
  have h4 : ((a % ((2 ^ 32 : Nat) : Int)).toNat : Int) = a % ((2 ^ 32 : Nat) : Int) := Int.toNat_of_nonneg (Int.emod_nonneg _ (by decide))
  have h5 : (2 ^ k : Int) ∣ ((2 ^ 32 : Nat) : Int) := by
    have : ((2 ^ 32 : Nat) : Int) = 2 ^ k * 2 ^ (32 - k) := by
      rw [← Int.pow_add, show k + (32 - k) = 32 by omega]; simp
    exact ⟨_, this⟩
  have h6 : ((((a % ((2 ^ 32 : Nat) : Int)).toNat % 2 ^ k : Nat)) : Int) = a % 2 ^ k := by
    rw [Int.natCast_emod, h4]
    rw [show ((2 ^ k : Nat) : Int) = 2 ^ k by simp]
    exact Int.emod_emod_of_dvd a h5
  omega
section ZR2
variable {p : Program} {l : Launch} {e : Env} {R : Room} {s : State} {m : MethodId} {args : Array Value} {below : List Frame} {meth : Method} {c : Code} {H : Heap} {locs : List Loc} {cells slots : Nat} {Q : State → Prop} {cc : ByteArray} {pc : Nat} {ls : Array Slot} {rest : List Value}
theorem zr_lor31 (hx : p.tables.exec = Jvm.exec) (hb : c.code = cc) {x y : Int} (x0 : 0 ≤ x) (hy : 0 ≤ y ∧ y < 2147483648) (hd : decode cc pc = .ok (.lor, 1)) (kk : W p l e R s m args below meth c H locs cells slots Q (F0 m (pc + 1) ls (.long (lZ (x * 2147483648 + y)) :: rest))) : W p l e R s m args below meth c H locs cells slots Q (F0 m pc ls (.long (lZ y) :: .long (lZ (x * 2147483648)) :: rest)) := lv_lor hx hb hd (by
  have h := lZ_or (x := x) (y := y) 31 (by decide) x0 (by rw [show (2 : Int) ^ 31 = 2147483648 from rfl]; exact hy)
  rw [show (2 : Int) ^ 31 = 2147483648 from rfl] at h
  rw [h]; exact kk)
theorem zr_lor (hx : p.tables.exec = Jvm.exec) (hb : c.code = cc) {x y : Int} (k : Nat) (hk : k < 63) (x0 : 0 ≤ x) (hy : 0 ≤ y ∧ y < 2 ^ k) (hd : decode cc pc = .ok (.lor, 1)) (kk : W p l e R s m args below meth c H locs cells slots Q (F0 m (pc + 1) ls (.long (lZ (x * 2 ^ k + y)) :: rest))) : W p l e R s m args below meth c H locs cells slots Q (F0 m pc ls (.long (lZ y) :: .long (lZ (x * 2 ^ k)) :: rest)) := lv_lor hx hb hd (by rw [lZ_or k hk x0 hy]; exact kk)
theorem zr_lorC (hx : p.tables.exec = Jvm.exec) (hb : c.code = cc) {x y : Int} (k : Nat) (hk : k < 63) (x0 : 0 ≤ x) (hy : 0 ≤ y ∧ y < 2 ^ k) (hd : decode cc pc = .ok (.lor, 1)) (kk : W p l e R s m args below meth c H locs cells slots Q (F0 m (pc + 1) ls (.long (lZ (y + x * 2 ^ k)) :: rest))) : W p l e R s m args below meth c H locs cells slots Q (F0 m pc ls (.long (lZ (x * 2 ^ k)) :: .long (lZ y) :: rest)) := lv_lor hx hb hd (by rw [Int64.or_comm, lZ_or k hk x0 hy, Int.add_comm]; exact kk)
theorem zr_iand31 (hx : p.tables.exec = Jvm.exec) (hb : c.code = cc) {x : Int} (hd : decode cc pc = .ok (.iand, 1)) (kk : W p l e R s m args below meth c H locs cells slots Q (F0 m (pc + 1) ls (.int (iZ (x % 2147483648)) :: rest))) : W p l e R s m args below meth c H locs cells slots Q (F0 m pc ls (.int (iZ 2147483647) :: .int (iZ x) :: rest)) := lv_iand hx hb hd (by
  have h := iZ_mask x 31 (by decide)
  rw [show (2 : Int) ^ 31 = 2147483648 from rfl] at h
  rw [show (2147483647 : Int) = 2147483648 - 1 from rfl, h]; exact kk)
theorem zr_ishl (hx : p.tables.exec = Jvm.exec) (hb : c.code = cc) {x : Int} {k : Nat} (hk : k < 32) (hd : decode cc pc = .ok (.ishl, 1)) (kk : W p l e R s m args below meth c H locs cells slots Q (F0 m (pc + 1) ls (.int (iZ (x * 2 ^ k)) :: rest))) : W p l e R s m args below meth c H locs cells slots Q (F0 m pc ls (.int (iZ k) :: .int (iZ x) :: rest)) := lv_ishl hx hb hd (by rw [iZ_shl x hk]; exact kk)
theorem zr_ishr (hx : p.tables.exec = Jvm.exec) (hb : c.code = cc) {x : Int} {k : Nat} (rx : iR x) (hk : k < 32) (hd : decode cc pc = .ok (.ishr, 1)) (kk : W p l e R s m args below meth c H locs cells slots Q (F0 m (pc + 1) ls (.int (iZ (x / 2 ^ k)) :: rest))) : W p l e R s m args below meth c H locs cells slots Q (F0 m pc ls (.int (iZ k) :: .int (iZ x) :: rest)) := lv_ishr hx hb hd (by rw [iZ_shr rx hk]; exact kk)
theorem zr_iushr (hx : p.tables.exec = Jvm.exec) (hb : c.code = cc) {x : Int} {k : Nat} (rx : iR x) (x0 : 0 ≤ x) (hk : k < 32) (hd : decode cc pc = .ok (.iushr, 1)) (kk : W p l e R s m args below meth c H locs cells slots Q (F0 m (pc + 1) ls (.int (iZ (x / 2 ^ k)) :: rest))) : W p l e R s m args below meth c H locs cells slots Q (F0 m pc ls (.int (iZ k) :: .int (iZ x) :: rest)) := lv_iushr hx hb hd (iZ_ushr rx x0 hk) kk
theorem zr_iand (hx : p.tables.exec = Jvm.exec) (hb : c.code = cc) {x : Int} (k : Nat) (hk : k < 32) {M : Int} (hM : M = 2 ^ k - 1) (hd : decode cc pc = .ok (.iand, 1)) (kk : W p l e R s m args below meth c H locs cells slots Q (F0 m (pc + 1) ls (.int (iZ (x % 2 ^ k)) :: rest))) : W p l e R s m args below meth c H locs cells slots Q (F0 m pc ls (.int (iZ M) :: .int (iZ x) :: rest)) := lv_iand hx hb hd (by rw [hM, iZ_mask x k hk]; exact kk)
theorem zr_copyi {D : va_G} {cl : List vw_C} {tys : List (ClassId × FieldType)} {w : va_W} {a a0 n0 n1 : Nat} {cA : ClassId} {f g : Nat → Int} {A : Nat → Prop} {H0 : Heap} (hx : p.tables.exec = Jvm.exec) (hb : c.code = cc) (hml : c.maxLocals = ls.size) {own : String} {index : Nat} (hown : s.vm.findClass own = some m.cls) (hlink : (Cond.methodLink own index arraycopyName).before args s = true) (hnat : (Cond.native arraycopyName).before args s = true) (hstat : (Cond.static arraycopyName).before args s = true) (hini : (Cond.initialized "java/lang/System").before args s = true)
    (hK : va_K D cl tys s) (hP : va_P D cl w H) (hD : va_D A w) (hS : va_S A H0 H locs) (q0 q1 t0 : Nat) (ha0 : w[q0]? = some (a0, aI cA n0 f)) (ha1 : w[q1]? = some (a, aI cA n1 g)) (ht : tys[t0]? = some (cA, .int)) {k : Nat} (hk0 : k ≤ n0) (hk1 : k ≤ n1) (hn : n0 < 2147483648) (hframes : 1 ≤ R.frames) (hlocals : (rest.map fun v => v.category).sum + (nativeFrameWords "java/lang/System" "arraycopy" 5 + 11) ≤ R.locals) (hd : decode cc pc = .ok (.invokestatic index, 3))
    (kk : ∀ (H1 : Heap) (locs1 : List Loc), va_P D cl (w.set q1 (a, aI cA n1 (fun i => if i < k then f i else g i))) H1 → va_D A (w.set q1 (a, aI cA n1 (fun i => if i < k then f i else g i))) → va_S A H0 H1 locs1 → W p l e R s m args below meth c H1 locs1 cells slots Q (F0 m (pc + 3) ls rest)) : W p l e R s m args below meth c H locs cells slots Q (F0 m pc ls (.int (iZ k) :: .int (iZ 0) :: .ref a :: .int (iZ 0) :: .ref a0 :: rest)) := by
  have c0 : (iZ 0).toNatClampNeg = 0 := iZ_clamp (a := 0) (by decide)
  have ck : (iZ (k : Int)).toNatClampNeg = k := iZ_clamp (by omega)
  have hcpy : va_cpy (fun i => iZ (f i)) (fun i => iZ (g i)) (iZ 0).toNatClampNeg (iZ 0).toNatClampNeg (iZ (k : Int)).toNatClampNeg = fun i => iZ (if i < k then f i else g i) := by
    funext i
    rw [c0, ck]
    unfold va_cpy
    by_cases q : i < k
    · rw [if_pos ⟨Nat.zero_le i, by omega⟩, if_pos q]; simp
    · rw [if_neg (by omega), if_neg q]
  refine va_copyi (ty := .int) hx hb hml hown hlink hnat hstat hini hK hP hD hS q0 q1 t0 t0 ha0 ha1 ht ht rfl (by decide) (by decide) (fun q => ?_) (by rw [c0, ck]; omega) (by rw [c0, ck]; omega) (fun i _ => rfl) hframes hlocals hd ?_
  · rw [show (0 : Int32) = iZ 0 from rfl, iZ_lt ⟨by omega, by omega⟩ (by decide)] at q
    omega
  · rw [hcpy]
    exact kk
end ZR2
