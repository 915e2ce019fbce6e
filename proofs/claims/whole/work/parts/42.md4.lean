theorem iZ_or {x y : Int} (k : Nat) (hk : k < 32) (hx : 0 ≤ x) (hy : 0 ≤ y ∧ y < 2 ^ k) : iZ (x * 2 ^ k) ||| iZ y = iZ (x * 2 ^ k + y) := by
  obtain ⟨a, rfl⟩ : ∃ a : Nat, x = a := ⟨x.toNat, by omega⟩
  obtain ⟨b, rfl⟩ : ∃ b : Nat, y = b := ⟨y.toNat, by omega⟩
  have hb : b < 2 ^ k := by
    have h := hy.2
    have h2 : (2 ^ k : Int) = ((2 ^ k : Nat) : Int) := by simp
    rw [h2] at h
    omega
  apply Int32.toBitVec_inj.mp
  show BitVec.ofInt 32 (a * 2 ^ k) ||| BitVec.ofInt 32 b = BitVec.ofInt 32 (a * 2 ^ k + b)
  have e1 : ((a : Int) * 2 ^ k) = ((2 ^ k * a : Nat) : Int) := by rw [Int.natCast_mul, Int.mul_comm]; simp
  rw [e1, ← Int.natCast_add, BitVec.ofInt_natCast, BitVec.ofInt_natCast, BitVec.ofInt_natCast, ← BitVec.ofNat_or, Nat.two_pow_add_eq_or_of_lt hb]
theorem iZ_bit15 {x : Int} (h : 0 ≤ x ∧ x < 65536) : iZ x &&& iZ 32768 = iZ (if 32768 ≤ x then 32768 else 0) := by
  have e1 : x = (x / 32768) * 2 ^ 15 + x % 32768 := by omega
  have e2 : iZ x = iZ ((x / 32768) * 2 ^ 15) ||| iZ (x % 32768) := by rw [iZ_or 15 (by decide) (by omega) (by omega), ← e1]
  have e3 : iZ (x % 32768) = iZ x &&& iZ (2 ^ 15 - 1) := by rw [iZ_mask x 15 (by decide)]; rfl
  by_cases q : 32768 ≤ x
  · rw [if_pos q]
    have e4 : iZ x = iZ 32768 ||| iZ (x % 32768) := by rw [e2, show x / 32768 = 1 by omega]; rfl
    rw [e4]
    apply Int32.toBitVec_inj.mp
    show (BitVec.ofInt 32 32768 ||| (iZ (x % 32768)).toBitVec) &&& BitVec.ofInt 32 32768 = BitVec.ofInt 32 32768
    rw [BitVec.and_comm]
    generalize (iZ (x % 32768)).toBitVec = w
    apply BitVec.eq_of_getElem_eq
    intro i hi
    rw [BitVec.getElem_and, BitVec.getElem_or]
    cases (BitVec.ofInt 32 32768)[i] <;> rfl
  · rw [if_neg q]
    have e4 : iZ x = iZ (x % 32768) := by rw [show x % 32768 = x by omega]
    rw [e4, e3]
    apply Int32.toBitVec_inj.mp
    show ((iZ x).toBitVec &&& BitVec.ofInt 32 (2 ^ 15 - 1)) &&& BitVec.ofInt 32 32768 = BitVec.ofInt 32 0
    rw [BitVec.and_assoc, show BitVec.ofInt 32 (2 ^ 15 - 1) &&& BitVec.ofInt 32 32768 = 0#32 by decide, BitVec.and_zero]
    decide
section ZR5
variable {p : Program} {l : Launch} {e : Env} {R : Room} {s : State} {m : MethodId} {args : Array Value} {below : List Frame} {meth : Method} {c : Code} {H : Heap} {locs : List Loc} {cells slots : Nat} {Q : State → Prop} {cc : ByteArray} {pc : Nat} {ls : Array Slot} {rest : List Value}
theorem zr_ior (hx : p.tables.exec = Jvm.exec) (hb : c.code = cc) {x y : Int} (k : Nat) (hk : k < 32) (x0 : 0 ≤ x) (hy : 0 ≤ y ∧ y < 2 ^ k) (hd : decode cc pc = .ok (.ior, 1)) (kk : W p l e R s m args below meth c H locs cells slots Q (F0 m (pc + 1) ls (.int (iZ (x * 2 ^ k + y)) :: rest))) : W p l e R s m args below meth c H locs cells slots Q (F0 m pc ls (.int (iZ y) :: .int (iZ (x * 2 ^ k)) :: rest)) := lv_ior hx hb hd (by rw [iZ_or k hk x0 hy]; exact kk)
theorem zr_iorC (hx : p.tables.exec = Jvm.exec) (hb : c.code = cc) {x y : Int} (k : Nat) (hk : k < 32) (x0 : 0 ≤ x) (hy : 0 ≤ y ∧ y < 2 ^ k) (hd : decode cc pc = .ok (.ior, 1)) (kk : W p l e R s m args below meth c H locs cells slots Q (F0 m (pc + 1) ls (.int (iZ (y + x * 2 ^ k)) :: rest))) : W p l e R s m args below meth c H locs cells slots Q (F0 m pc ls (.int (iZ (x * 2 ^ k)) :: .int (iZ y) :: rest)) := lv_ior hx hb hd (by rw [Int32.or_comm, iZ_or k hk x0 hy, Int.add_comm]; exact kk)
theorem zr_iandb (hx : p.tables.exec = Jvm.exec) (hb : c.code = cc) {x : Int} (h : 0 ≤ x ∧ x < 65536) (hd : decode cc pc = .ok (.iand, 1)) (kk : W p l e R s m args below meth c H locs cells slots Q (F0 m (pc + 1) ls (.int (iZ (if 32768 ≤ x then 32768 else 0)) :: rest))) : W p l e R s m args below meth c H locs cells slots Q (F0 m pc ls (.int (iZ 32768) :: .int (iZ x) :: rest)) := lv_iand hx hb hd (by rw [iZ_bit15 h]; exact kk)
end ZR5
theorem hx_p1 : hx_p 1 = 65536 := rfl
theorem kx_lt_of_mul {a b P : Int} (hP : 0 < P) (h : a * P < b * P) : a < b := by
  rcases Int.lt_or_le a b with q | q
  · exact q
  · have := Int.mul_le_mul_of_nonneg_right q (Int.le_of_lt hP); omega
theorem kx_q0 {H N t pair P V U lv lu q : Int} (hP : 0 < P) (hV : V = lv + (N + H * 65536) * P) (hU : U = lu + (t + pair * 65536) * P) (h1 : 0 ≤ lv) (h2 : lu < P) (hN : 0 ≤ N) (ht : t < 65536) (hH : 0 < H) (hq : 0 ≤ q) (h : q * V ≤ U) : q ≤ pair / H := by
  have a1 : (H * 65536) * P ≤ V := by
    have : 0 ≤ N * P := Int.mul_nonneg hN (Int.le_of_lt hP)
    rw [hV, Int.add_mul]; omega
  have a2 : q * ((H * 65536) * P) ≤ q * V := Int.mul_le_mul_of_nonneg_left a1 hq
  have a3 : (q * (H * 65536)) * P < (t + 1 + pair * 65536) * P := by
    rw [Int.mul_assoc, show t + 1 + pair * 65536 = (t + pair * 65536) + 1 by omega, Int.add_mul]; omega
  have a4 := kx_lt_of_mul hP a3
  rw [← Int.mul_assoc] at a4
  exact Int.le_ediv_of_mul_le hH (by omega)
theorem kx_gt {H N t pair P V U lv lu q z left : Int} (hP : 0 < P) (hV : V = lv + (N + H * 65536) * P) (hU : U = lu + (t + pair * 65536) * P) (h1 : 0 ≤ lv) (h2 : lu < P) (hz : 0 ≤ z) (hleft : left = pair - z * H) (hV0 : 0 ≤ V) (h : q * V ≤ U) (ht : left * 65536 + t < z * N) : q ≤ z - 1 := by
  rcases (show q ≤ z - 1 ∨ z ≤ q by omega) with w | w
  · exact w
  · exfalso
    have a0 : z * V ≤ q * V := Int.mul_le_mul_of_nonneg_right w hV0
    have a1 : (N + H * 65536) * P ≤ V := by omega
    have a2 : z * ((N + H * 65536) * P) ≤ z * V := Int.mul_le_mul_of_nonneg_left a1 hz
    have e9 : (t + 1 + pair * 65536) * P = (t + pair * 65536) * P + P := by
      rw [show t + 1 + pair * 65536 = (t + pair * 65536) + 1 by omega, Int.add_mul, Int.one_mul]
    have a3 : (z * (N + H * 65536)) * P < (t + 1 + pair * 65536) * P := by
      rw [Int.mul_assoc, e9]; omega
    have a4 := kx_lt_of_mul hP a3
    rw [Int.mul_add, ← Int.mul_assoc] at a4
    rw [hleft] at ht
    omega
theorem kx_close {H N t pair P V U lv lu z left : Int} (hP : 0 < P) (hV : V = lv + (N + H * 65536) * P) (hU : U = lu + (t + pair * 65536) * P) (h1 : lv < P) (h2 : 0 ≤ lu) (hz : 0 ≤ z ∧ z < 65536) (hleft : left = pair - z * H) (hl0 : 0 ≤ lv) (hN : 0 ≤ N) (hH : 1 ≤ H) (ht : z * N ≤ left * 65536 + t) : (z - 1) * V ≤ U := by
  have a1 : z * lv ≤ z * P := Int.mul_le_mul_of_nonneg_left (Int.le_of_lt h1) hz.1
  have a2 : z * P ≤ 65536 * P := Int.mul_le_mul_of_nonneg_right (by omega) (Int.le_of_lt hP)
  have a3 : 65536 * P ≤ (N + H * 65536) * P := Int.mul_le_mul_of_nonneg_right (by omega) (Int.le_of_lt hP)
  have a4 : z * (N + H * 65536) ≤ t + pair * 65536 := by
    rw [Int.mul_add, ← Int.mul_assoc, show z * H = pair - left by omega]
    omega
  have a5 : (z * (N + H * 65536)) * P ≤ (t + pair * 65536) * P := Int.mul_le_mul_of_nonneg_right a4 (Int.le_of_lt hP)
  have a6 : z * V = z * lv + (z * (N + H * 65536)) * P := by rw [hV, Int.mul_add, Int.mul_assoc]
  rw [Int.sub_mul, Int.one_mul]
  omega
theorem kx_qB {q V U : Int} (hV : 0 < V) (h : q * V ≤ U) (hU : U < V * 65536) : q ≤ 65535 := by
  have : q * V < 65536 * V := by rw [Int.mul_comm 65536]; omega
  have := kx_lt_of_mul hV this
  omega
theorem kx_top2 (v : Nat → Int) (n : Nat) : hx_val v (n + 2) = hx_val v n + (v n + v (n + 1) * 65536) * hx_p n := by
  rw [hx_vs, hx_vs, hx_ps, Int.add_mul, Int.mul_assoc, Int.add_assoc]
theorem kx_top3 (u : Nat → Int) (n : Nat) : hx_val u (n + 3) = hx_val u n + (u n + (u (n + 2) * 65536 + u (n + 1)) * 65536) * hx_p n := by
  rw [hx_vs, kx_top2, hx_ps, hx_ps]
  have : (u n + (u (n + 2) * 65536 + u (n + 1)) * 65536) * hx_p n = (u n + u (n + 1) * 65536) * hx_p n + u (n + 2) * (65536 * (65536 * hx_p n)) := by
    rw [Int.add_mul, Int.add_mul, Int.add_mul, Int.add_mul]
    simp only [Int.mul_assoc]
    omega
  rw [this]
  omega
theorem sx_digit {s : Nat} {y u : Int} (hs : s ≤ 15) (hu : 0 ≤ u ∧ u < 65536) (hy : 0 ≤ y) : bg_t s * ((y * 65536 + u) / bg_t s % 65536) = u - u % bg_t s + (y % bg_t s) * 65536 := by
  have ht := bg_t_pos s
  obtain ⟨c, hc⟩ : ∃ c, c = bg_t (16 - s) := ⟨_, rfl⟩
  have hc0 : 0 < c := by rw [hc]; exact bg_t_pos _
  have hB : (65536 : Int) = bg_t s * c := by rw [hc, ← bg_t_add, show s + (16 - s) = 16 by omega]; decide
  have hy0 : y = bg_t s * (y / bg_t s) + y % bg_t s := (Int.mul_ediv_add_emod y (bg_t s)).symm
  have hy1 := Int.emod_nonneg y (Int.ne_of_gt ht)
  have hy2 := Int.emod_lt_of_pos y ht
  have hu0 : u = bg_t s * (u / bg_t s) + u % bg_t s := (Int.mul_ediv_add_emod u (bg_t s)).symm
  have hu1 := Int.emod_nonneg u (Int.ne_of_gt ht)
  have hu2 : u / bg_t s < c := Int.ediv_lt_of_lt_mul ht (by rw [Int.mul_comm, ← hB]; exact hu.2)
  have hu3 : 0 ≤ u / bg_t s := Int.ediv_nonneg hu.1 (Int.le_of_lt ht)
  have e1 : (y * 65536 + u) / bg_t s = (y % bg_t s) * c + u / bg_t s + 65536 * (y / bg_t s) := by
    have : y * 65536 + u = u + bg_t s * ((y % bg_t s) * c + 65536 * (y / bg_t s)) := by
      have : y * 65536 = (bg_t s * (y / bg_t s) + y % bg_t s) * 65536 := by rw [← hy0]
      rw [this, Int.add_mul, Int.mul_add, Int.add_comm]
      congr 1
      rw [Int.add_comm]
      congr 1
      · rw [Int.mul_left_comm, ← hB]
      · rw [Int.mul_assoc, Int.mul_comm (y / bg_t s)]
    rw [this, Int.add_mul_ediv_left _ _ (Int.ne_of_gt ht)]
    omega
  have e2 : (y % bg_t s) * c + u / bg_t s < 65536 := by
    have : (y % bg_t s + 1) * c ≤ bg_t s * c := Int.mul_le_mul_of_nonneg_right (by omega) (Int.le_of_lt hc0)
    rw [← hB, Int.add_mul] at this
    omega
  have e3 : 0 ≤ (y % bg_t s) * c := Int.mul_nonneg hy1 (Int.le_of_lt hc0)
  rw [e1, Int.add_mul_emod_self_left, Int.emod_eq_of_lt (by omega) e2, Int.mul_add]
  have e4 : bg_t s * ((y % bg_t s) * c) = (y % bg_t s) * 65536 := by rw [Int.mul_left_comm, ← hB]
  omega
theorem sx_step {g u : Nat → Int} {i s : Nat} {y l0 : Int} (hs : s ≤ 15) (hu : 0 ≤ u i ∧ u i < 65536) (hy : 0 ≤ y) (h : bg_t s * hx_val g i = hx_val u i - l0 + (u i % bg_t s) * hx_p i) : bg_t s * hx_val (zu g i ((y * 65536 + u i) / bg_t s % 65536)) (i + 1) = hx_val u (i + 1) - l0 + (y % bg_t s) * hx_p (i + 1) := by
  rw [hx_vs, zu_s, hx_zu_lo (Nat.le_refl i), Int.mul_add, h, ← Int.mul_assoc, sx_digit hs hu hy, hx_vs, hx_ps, Int.add_mul, Int.sub_mul, Int.mul_assoc]
  omega
theorem sx_end {V l0 G : Int} {s : Nat} (h0 : 0 ≤ l0 ∧ l0 < bg_t s) (h : bg_t s * G = V - l0) : G = V / bg_t s := by
  have ht := bg_t_pos s
  have : V = l0 + bg_t s * G := by omega
  rw [this, Int.add_mul_ediv_left _ _ (Int.ne_of_gt ht), Int.ediv_eq_zero_of_lt h0.1 h0.2]
  omega
def kx_K (V U H N t pair : Int) : Prop := ∃ V' U' P lv lu : Int, 0 < P ∧ V' = lv + (N + H * 65536) * P ∧ U' = lu + (t + pair * 65536) * P ∧ (0 ≤ lv ∧ lv < P) ∧ (0 ≤ lu ∧ lu < P) ∧ (∀ q : Int, q * V ≤ U ↔ q * V' ≤ U') ∧ 0 ≤ V' ∧ U' < V' * 65536
theorem kx_K_q0 {V U H N t pair q : Int} (k : kx_K V U H N t pair) (hN : 0 ≤ N) (ht : t < 65536) (hH : 0 < H) (hq : 0 ≤ q) (h : q * V ≤ U) : q ≤ pair / H := by
  obtain ⟨V', U', P, lv, lu, h1, h2, h3, h4, h5, h6, h7, h8⟩ := k
  exact kx_q0 h1 h2 h3 h4.1 h5.2 hN ht hH hq ((h6 q).mp h)
theorem kx_K_gt {V U H N t pair q z left : Int} (k : kx_K V U H N t pair) (hz : 0 ≤ z) (hleft : left = pair - z * H) (h : q * V ≤ U) (ht : left * 65536 + t < z * N) : q ≤ z - 1 := by
  obtain ⟨V', U', P, lv, lu, h1, h2, h3, h4, h5, h6, h7, h8⟩ := k
  exact kx_gt h1 h2 h3 h4.1 h5.2 hz hleft h7 ((h6 q).mp h) ht
theorem kx_K_close {V U H N t pair z left : Int} (k : kx_K V U H N t pair) (hz : 0 ≤ z ∧ z < 65536) (hleft : left = pair - z * H) (hN : 0 ≤ N) (hH : 1 ≤ H) (ht : z * N ≤ left * 65536 + t) : (z - 1) * V ≤ U := by
  obtain ⟨V', U', P, lv, lu, h1, h2, h3, h4, h5, h6, h7, h8⟩ := k
  exact (h6 _).mpr (kx_close h1 h2 h3 h4.2 h5.1 hz hleft h4.1 hN hH ht)
theorem kx_K_pair {V U H N t pair : Int} (k : kx_K V U H N t pair) (ht : 0 ≤ t) (hN : N < 65536) : pair < (H + 1) * 65536 := by
  obtain ⟨V', U', P, lv, lu, h1, h2, h3, h4, h5, h6, h7, h8⟩ := k
  have a1 : (t + pair * 65536) * P ≤ U' := by omega
  have a2 : V' * 65536 < ((1 + N + H * 65536) * 65536) * P := by
    have e : (1 + N + H * 65536) * P = P + (N + H * 65536) * P := by
      rw [show 1 + N + H * 65536 = 1 + (N + H * 65536) by omega, Int.add_mul, Int.one_mul]
    have e2 : ((1 + N + H * 65536) * 65536) * P = ((1 + N + H * 65536) * P) * 65536 := by rw [Int.mul_assoc, Int.mul_comm 65536 P, ← Int.mul_assoc]
    rw [e2, e]; omega
  have a3 : (pair * 65536) * P ≤ (t + pair * 65536) * P := Int.mul_le_mul_of_nonneg_right (by omega) (Int.le_of_lt h1)
  have a4 := kx_lt_of_mul h1 (show (pair * 65536) * P < ((1 + N + H * 65536) * 65536) * P by omega)
  omega
theorem kx_K_two {u v : Nat → Int} {a m M : Nat} (hu : hx_dg u M) (hM : a + (m + 2) < M) (hv : hx_dg v (m + 2)) (hUV : hx_val (fun j => u (a + j)) (m + 3) < hx_val v (m + 2) * 65536) : kx_K (hx_val v (m + 2)) (hx_val (fun j => u (a + j)) (m + 3)) (v (m + 1)) (v m) (u (a + m)) (u (a + (m + 2)) * 65536 + u (a + (m + 1))) := by
  have hw := hx_win_dg hu (show a + (m + 3) ≤ M by omega)
  refine ⟨_, _, hx_p m, hx_val v m, hx_val (fun j => u (a + j)) m, hx_p_pos m, kx_top2 v m, kx_top3 (fun j => u (a + j)) m, ⟨hx_val_nn (hx_dg_le hv (by omega)), hx_val_lt (hx_dg_le hv (by omega))⟩, ⟨hx_val_nn (hx_dg_le hw (by omega)), hx_val_lt (hx_dg_le hw (by omega))⟩, fun q => Iff.rfl, hx_val_nn hv, hUV⟩
theorem kx_norm {e v : Nat → Int} {m r s : Nat} {b : Int} (h : hx_ok e (m + 1) r b) (hs : s ≤ 15) (h1 : 32768 ≤ e m * 2 ^ s) (h2 : e m * 2 ^ s < 65536) (hv : hx_dg v (m + 2)) (hval : hx_val v (m + 2) = hx_val e (m + 1) * bg_t s) : hx_val v (m + 1) = b * bg_t s ∧ 32768 ≤ v m := by
  have ht := bg_t_pos s
  have hp := hx_p_pos m
  have hs1 : (2 : Int) ^ s = bg_t s := rfl
  rw [hs1] at h1 h2
  have hb := h.2.2.2
  have he := hx_dg_le h.2.1 (Nat.le_succ m)
  have a1 := hx_val_nn he
  have a2 := hx_val_lt he
  have hB : (65536 : Int) = bg_t (16 - s) * bg_t s := by rw [← bg_t_add, show 16 - s + s = 16 by omega]; decide
  have c1 : e m + 1 ≤ bg_t (16 - s) := by
    rcases (show e m + 1 ≤ bg_t (16 - s) ∨ bg_t (16 - s) ≤ e m by omega) with w | w
    · exact w
    · have q3 : bg_t (16 - s) * bg_t s ≤ e m * bg_t s := Int.mul_le_mul_of_nonneg_right w (Int.le_of_lt ht)
      omega
  have c2 : (e m + 1) * bg_t s ≤ 65536 := by
    have : (e m + 1) * bg_t s ≤ bg_t (16 - s) * bg_t s := Int.mul_le_mul_of_nonneg_right c1 (Int.le_of_lt ht)
    omega
  have hb2 : b = hx_val e m + e m * hx_p m := by rw [← hb, hx_vs]
  have d1 : b * bg_t s < 65536 * hx_p m := by
    have q1 : b * bg_t s < ((e m + 1) * hx_p m) * bg_t s := Int.mul_lt_mul_of_pos_right (by rw [hb2, Int.add_mul]; omega) ht
    have q2 : ((e m + 1) * hx_p m) * bg_t s = ((e m + 1) * bg_t s) * hx_p m := by rw [Int.mul_assoc, Int.mul_comm (hx_p m), ← Int.mul_assoc]
    have q3 : ((e m + 1) * bg_t s) * hx_p m ≤ 65536 * hx_p m := Int.mul_le_mul_of_nonneg_right c2 (Int.le_of_lt hp)
    omega
  have d2 : 32768 * hx_p m ≤ b * bg_t s := by
    have q1 : (e m * hx_p m) * bg_t s ≤ b * bg_t s := Int.mul_le_mul_of_nonneg_right (by omega) (Int.le_of_lt ht)
    have q2 : (e m * hx_p m) * bg_t s = (e m * bg_t s) * hx_p m := by rw [Int.mul_assoc, Int.mul_comm (hx_p m), ← Int.mul_assoc]
    have q3 : 32768 * hx_p m ≤ (e m * bg_t s) * hx_p m := Int.mul_le_mul_of_nonneg_right h1 (Int.le_of_lt hp)
    omega
  rw [hb] at hval
  rw [hx_vs, hx_ps] at hval
  have f0 := hv (m + 1) (by omega)
  have f1 := hx_val_nn (hx_dg_le hv (show m + 1 ≤ m + 2 by omega))
  have f2 : v (m + 1) = 0 := by
    rcases (show v (m + 1) = 0 ∨ 1 ≤ v (m + 1) by omega) with w | w
    · exact w
    · have : 1 * (65536 * hx_p m) ≤ v (m + 1) * (65536 * hx_p m) := Int.mul_le_mul_of_nonneg_right w (by omega)
      omega
  rw [f2, Int.zero_mul, Int.add_zero] at hval
  refine ⟨hval, ?_⟩
  rw [hx_vs] at hval
  have f3 := hx_val_lt (hx_dg_le hv (show m ≤ m + 2 by omega))
  rcases (show 32768 ≤ v m ∨ v m + 1 ≤ 32768 by omega) with w | w
  · exact w
  · have : (v m + 1) * hx_p m ≤ 32768 * hx_p m := Int.mul_le_mul_of_nonneg_right w (Int.le_of_lt hp)
    rw [Int.add_mul] at this
    omega
theorem kx_start {d u v : Nat → Int} {n m r s : Nat} {a : Int} (h : hx_ok d n r a) (hs : s ≤ 15) (hmn : m + 1 ≤ n) (hu : hx_dg u (n + 1)) (hval : hx_val u (n + 1) = hx_val d n * bg_t s) (hv : hx_dg v (m + 1)) (htop : 32768 ≤ v m) : hx_val (fun j => u (n + 1 - (m + 1) + j)) (m + 1) < hx_val v (m + 1) := by
  have ht := bg_t_pos s
  have h30 : bg_t s ≤ 32768 := by have := bg_t_le hs; have e : bg_t 15 = 32768 := (by decide); omega
  have e0 : n + 1 = (n + 1 - (m + 1)) + (m + 1) := by omega
  have e1 := hx_val_split u (n + 1 - (m + 1)) (m + 1)
  rw [← e0] at e1
  have a1 := hx_val_nn (hx_dg_le hu (show n + 1 - (m + 1) ≤ n + 1 by omega))
  have hd := hx_ok_lt h
  rw [hval, h.2.2.2] at e1
  have p1 := hx_p_pos (n + 1 - (m + 1))
  have e2 : hx_p n = hx_p (n + 1 - (m + 1)) * hx_p m := by rw [← hx_p_add]; congr 1; omega
  have b1 : a * bg_t s < hx_p n * bg_t s := Int.mul_lt_mul_of_pos_right hd ht
  have b2 : hx_p n * bg_t s ≤ hx_p n * 32768 := Int.mul_le_mul_of_nonneg_left h30 (Int.le_of_lt (hx_p_pos n))
  have b3 : hx_val (fun j => u (n + 1 - (m + 1) + j)) (m + 1) * hx_p (n + 1 - (m + 1)) < (32768 * hx_p m) * hx_p (n + 1 - (m + 1)) := by
    rw [Int.mul_comm (hx_val _ _), Int.mul_assoc, Int.mul_comm (hx_p m), ← e2, Int.mul_comm 32768]
    omega
  have b4 := kx_lt_of_mul p1 b3
  have c1 := hx_val_nn (hx_dg_le hv (Nat.le_succ m))
  have c2 : 32768 * hx_p m ≤ v m * hx_p m := Int.mul_le_mul_of_nonneg_right htop (Int.le_of_lt (hx_p_pos m))
  rw [hx_vs v]
  omega
theorem kx_win {u : Nat → Int} {t k M : Nat} {V : Int} (hu : hx_dg u M) (hM : t + k < M) (hR : hx_val (fun j => u (t + 1 + j)) k < V) : hx_val (fun j => u (t + j)) (k + 1) < V * 65536 := by
  have e := hx_val_split (fun j => u (t + j)) 1 k
  rw [Nat.add_comm 1 k] at e
  have e1 : hx_val (fun j => u (t + j)) 1 = u t := by rw [hx_vs, hx_v0, hx_p0]; show 0 + u (t + 0) * 1 = u t; rw [Nat.add_zero]; omega
  have e2 : (fun i => (fun j => u (t + j)) (1 + i)) = fun j => u (t + 1 + j) := by funext j; show u (t + (1 + j)) = _; rw [Nat.add_assoc]
  rw [e1, e2, hx_p1] at e
  have := hu t (by omega)
  omega
theorem kx_div_step {u u' gq : Nat → Int} {t k T M : Nat} {A2 VV zq : Int} (htT : t + 1 ≤ T) (hM : t + k < M) (hu' : hx_dg u' M) (hVk : VV < hx_p k) (hsame : ∀ j : Nat, j < t ∨ t + k < j → u' j = u j) (hw0 : 0 ≤ hx_val (fun j => u (t + j)) (k + 1) - zq * VV ∧ hx_val (fun j => u (t + j)) (k + 1) - zq * VV < VV) (hw : hx_val (fun j => u' (t + j)) (k + 1) = hx_val (fun j => u (t + j)) (k + 1) - zq * VV)
    (hA : A2 = hx_val (fun j => gq (t + 1 + j)) (T - (t + 1)) * hx_p (t + 1) * VV + hx_val u (t + 1 + k)) : A2 = hx_val (fun j => zu gq t zq (t + j)) (T - t) * hx_p t * VV + hx_val u' (t + k) ∧ hx_val (fun j => u' (t + j)) k < VV := by
  have hp := hx_p_pos k
  have hwd := hx_win_dg hu' (show t + (k + 1) ≤ M by omega)
  have f0 : hx_val (fun j => u' (t + j)) (k + 1) = hx_val (fun j => u' (t + j)) k + u' (t + k) * hx_p k := hx_vs _ k
  have f1 := hx_val_nn (hx_dg_le hwd (Nat.le_succ k))
  have f2 := hu' (t + k) hM
  have f3 : u' (t + k) = 0 := by
    rcases (show u' (t + k) = 0 ∨ 1 ≤ u' (t + k) by omega) with w | w
    · exact w
    · have : 1 * hx_p k ≤ u' (t + k) * hx_p k := Int.mul_le_mul_of_nonneg_right w (Int.le_of_lt hp)
      omega
  rw [f3, Int.zero_mul, Int.add_zero] at f0
  refine ⟨?_, by omega⟩
  have g1 : hx_val (fun j => zu gq t zq (t + j)) (T - t) = zq + 65536 * hx_val (fun j => gq (t + 1 + j)) (T - (t + 1)) := by
    have e := hx_val_split (fun j => zu gq t zq (t + j)) 1 (T - (t + 1))
    rw [show 1 + (T - (t + 1)) = T - t by omega] at e
    rw [e, hx_vs, hx_v0, hx_p0, hx_p1]
    have e3 : zu gq t zq (t + 0) = zq := zu_s gq t zq
    have e4 : hx_val (fun i => zu gq t zq (t + (1 + i))) (T - (t + 1)) = hx_val (fun j => gq (t + 1 + j)) (T - (t + 1)) := hx_val_congr (fun j _ => by show zu gq t zq (t + (1 + j)) = gq (t + 1 + j); rw [zu_n gq zq (by omega), Nat.add_assoc])
    rw [e4]
    show 0 + zu gq t zq (t + 0) * 1 + _ = _
    rw [e3]; omega
  have g2 : hx_val u (t + 1 + k) = hx_val u t + hx_p t * hx_val (fun j => u (t + j)) (k + 1) := by rw [show t + 1 + k = t + (k + 1) by omega]; exact hx_val_split u t (k + 1)
  have g3 : hx_val u' (t + k) = hx_val u t + hx_p t * hx_val (fun j => u' (t + j)) k := by
    rw [hx_val_split u' t k]
    congr 1
    exact hx_val_congr (fun j hj => hsame j (Or.inl hj))
  rw [hA, g1, g2, g3, ← f0, hw, hx_ps]
  generalize hx_val (fun j => gq (t + 1 + j)) (T - (t + 1)) = Q
  generalize hx_val (fun j => u (t + j)) (k + 1) = U
  rw [Int.mul_sub, Int.add_mul, Int.add_mul]
  have i1 : Q * (65536 * hx_p t) * VV = 65536 * Q * hx_p t * VV := by rw [← Int.mul_assoc, Int.mul_comm Q]
  have i2 : zq * hx_p t * VV = hx_p t * (zq * VV) := by rw [Int.mul_comm zq, Int.mul_assoc]
  omega
theorem kx_fin {A b Q W t : Int} (ht : 0 < t) (hb : 0 < b) (hA : A * t = Q * (b * t) + W) (hW : 0 ≤ W ∧ W < b * t) : Q = A / b ∧ W / t = A % b := by
  have e : W = (A - Q * b) * t := by rw [Int.sub_mul, Int.mul_assoc]; omega
  have e2 : W / t = A - Q * b := by rw [e]; exact Int.mul_ediv_cancel _ (Int.ne_of_gt ht)
  have h0 : 0 ≤ A - Q * b := by rw [← e2]; exact Int.ediv_nonneg hW.1 (Int.le_of_lt ht)
  have h1 : A - Q * b < b := kx_lt_of_mul ht (by rw [← e]; exact hW.2)
  have e3 : A = (A - Q * b) + b * Q := by rw [Int.mul_comm b]; omega
  have e4 : A / b = Q := by rw [e3, Int.add_mul_ediv_left _ _ (Int.ne_of_gt hb), Int.ediv_eq_zero_of_lt h0 h1]; omega
  have e5 : A % b = A - Q * b := by rw [Int.emod_def, e4, Int.mul_comm b]
  exact ⟨e4.symm, by rw [e2, e5]⟩
/-- digits shifted up by s bits, and the carries -/
def md_c (f : Nat → Int) (s k : Nat) : Int := if k = 0 then 0 else f (k - 1) / bg_t (16 - s)
def md_sl (f : Nat → Int) (s k : Nat) : Int := (f k * bg_t s + md_c f s k) % 65536
theorem md_t16 {s : Nat} (hs : s ≤ 15) : (65536 : Int) = bg_t (16 - s) * bg_t s := by rw [← bg_t_add, show 16 - s + s = 16 by omega]; decide
theorem md_c_b {f : Nat → Int} {s k n : Nat} (hs : s ≤ 15) (hf : hx_dg f n) (hk : k ≤ n) : 0 ≤ md_c f s k ∧ md_c f s k < bg_t s := by
  unfold md_c
  have ht := bg_t_pos s
  have ht2 := bg_t_pos (16 - s)
  by_cases h : k = 0
  · rw [if_pos h]; exact ⟨Int.le_refl 0, ht⟩
  · rw [if_neg h]
    have := hf (k - 1) (by omega)
    refine ⟨Int.ediv_nonneg this.1 (Int.le_of_lt ht2), Int.ediv_lt_of_lt_mul ht2 ?_⟩
    rw [Int.mul_comm, ← md_t16 hs]; exact this.2
theorem md_sl_next {f : Nat → Int} {s k n : Nat} (hs : s ≤ 15) (hf : hx_dg f n) (hk : k ≤ n) : (f k * bg_t s + md_c f s k) / 65536 = md_c f s (k + 1) := by
  have h := md_c_b hs hf hk
  unfold md_c at h ⊢
  rw [if_neg (Nat.succ_ne_zero k), Nat.add_sub_cancel, md_t16 hs, Int.mul_comm (bg_t (16 - s)), ← Int.ediv_ediv_of_nonneg (Int.le_of_lt (bg_t_pos s)), Int.add_comm, Int.add_mul_ediv_right _ _ (Int.ne_of_gt (bg_t_pos s)), Int.ediv_eq_zero_of_lt h.1 h.2, Int.zero_add]
theorem md_sl_val {f : Nat → Int} {s n : Nat} (hs : s ≤ 15) (hf : hx_dg f n) : ∀ i : Nat, i ≤ n → hx_val (md_sl f s) i + md_c f s i * hx_p i = hx_val f i * bg_t s := by
  intro i
  induction i with
  | zero => intro _; rw [hx_v0, hx_v0]; unfold md_c; simp
  | succ i ih =>
    intro hi
    have e := ih (by omega)
    have h2 := md_sl_next hs hf (show i ≤ n by omega)
    rw [hx_vs, hx_vs, hx_ps, ← h2]
    have e2 := Int.mul_ediv_add_emod (f i * bg_t s + md_c f s i) 65536
    show hx_val (md_sl f s) i + ((f i * bg_t s + md_c f s i) % 65536) * hx_p i + _ = _
    generalize (f i * bg_t s + md_c f s i) / 65536 = q at *
    generalize (f i * bg_t s + md_c f s i) % 65536 = r at *
    grind
/-- the shifted dividend -/
theorem md_up {f u : Nat → Int} {s n : Nat} (hs : s ≤ 15) (hf : hx_dg f n) (hu : ∀ j : Nat, j < n → u j = md_sl f s j) (hn : u n = md_c f s n) : hx_dg u (n + 1) ∧ hx_val u (n + 1) = hx_val f n * bg_t s := by
  constructor
  · intro j hj
    by_cases q : j = n
    · rw [q, hn]
      have h := md_c_b hs hf (Nat.le_refl n)
      have h2 := bg_t_le hs
      have h3 : bg_t 15 = 32768 := by decide
      omega
    · rw [hu j (by omega)]; exact hx_mod _
  · rw [hx_vs, hx_val_congr (fun j hj => hu j hj), hn]; exact md_sl_val hs hf n (Nat.le_refl n)
/-- the shifted divisor -/
theorem md_dn {f u : Nat → Int} {s n : Nat} (hs : s ≤ 15) (h0 : 0 < n) (hf : hx_dg f n) (h1 : 32768 ≤ f (n - 1) * bg_t s) (h2 : f (n - 1) * bg_t s < 65536) (hu : ∀ j : Nat, j < n → u j = md_sl f s j) : hx_dg u n ∧ hx_val u n = hx_val f n * bg_t s ∧ 32768 ≤ u (n - 1) := by
  have ht := bg_t_pos s
  have ht2 := bg_t_pos (16 - s)
  have hlt : f (n - 1) < bg_t (16 - s) := by
    rcases (show f (n - 1) < bg_t (16 - s) ∨ bg_t (16 - s) ≤ f (n - 1) by omega) with w | w
    · exact w
    · have := Int.mul_le_mul_of_nonneg_right w (Int.le_of_lt ht)
      rw [← md_t16 hs] at this
      omega
  have hc : md_c f s n = 0 := by
    unfold md_c
    rw [if_neg (by omega)]
    exact Int.ediv_eq_zero_of_lt (hf (n - 1) (by omega)).1 hlt
  refine ⟨fun j hj => by rw [hu j hj]; exact hx_mod _, ?_, ?_⟩
  · have := md_sl_val hs hf n (Nat.le_refl n)
    rw [hc, Int.zero_mul, Int.add_zero] at this
    rw [← this]
    exact hx_val_congr (fun j hj => hu j hj)
  · rw [hu (n - 1) (by omega)]
    have hb := md_c_b hs hf (show n - 1 ≤ n by omega)
    have h3 : (f (n - 1) + 1) * bg_t s ≤ bg_t (16 - s) * bg_t s := Int.mul_le_mul_of_nonneg_right (by omega) (Int.le_of_lt ht)
    rw [← md_t16 hs, Int.add_mul, Int.one_mul] at h3
    unfold md_sl
    rw [Int.emod_eq_of_lt (by omega) (by omega)]
    omega
theorem md_sr {y u : Int} {s : Nat} (hs : s ≤ 15) : u / bg_t s + y * bg_t (16 - s) = (y * 65536 + u) / bg_t s := by
  rw [md_t16 hs, ← Int.mul_assoc, Int.add_comm (y * bg_t (16 - s) * bg_t s), Int.add_mul_ediv_right _ _ (Int.ne_of_gt (bg_t_pos s))]
theorem md_sr_b {u : Int} {s : Nat} (hs : s ≤ 15) (hu : 0 ≤ u ∧ u < 65536) : 0 ≤ u / bg_t s ∧ u / bg_t s < bg_t (16 - s) := by
  refine ⟨Int.ediv_nonneg hu.1 (Int.le_of_lt (bg_t_pos s)), Int.ediv_lt_of_lt_mul (bg_t_pos s) ?_⟩
  rw [← md_t16 hs]; exact hu.2
theorem md_sh_s {x : Int} {s : Nat} (hx : 1 ≤ x) (h : x * bg_t s < 65536) : s ≤ 15 := by
  have h1 : 1 * bg_t s ≤ x * bg_t s := Int.mul_le_mul_of_nonneg_right hx (Int.le_of_lt (bg_t_pos s))
  have h2 : bg_t s < bg_t 16 := by have e : bg_t 16 = 65536 := (by decide); omega
  have := bg_t_lt_iff h2
  omega
theorem md_qr {z V U r : Int} (hV : 0 < V) (hU : 0 ≤ U) (hz : 0 ≤ z ∧ z < 65536) (hq : ∀ q : Int, 0 ≤ q → q * V ≤ U → q ≤ z) (h1 : (z - 1) * V ≤ U) (hr : (r = z ∧ z * V ≤ U) ∨ (r = z - 1 ∧ U < z * V)) : (0 ≤ r ∧ r < 65536) ∧ (0 ≤ U - r * V ∧ U - r * V < V) := by
  rcases hr with ⟨q1, q2⟩ | ⟨q1, q2⟩
  · subst q1
    refine ⟨hz, by omega, ?_⟩
    rcases (show U - r * V < V ∨ V ≤ U - r * V by omega) with w | w
    · exact w
    · have := hq (r + 1) (by omega) (by rw [Int.add_mul, Int.one_mul]; omega)
      omega
  · subst q1
    rw [Int.sub_mul, Int.one_mul] at h1 ⊢
    refine ⟨⟨?_, by omega⟩, by omega, by omega⟩
    rcases (show 0 ≤ z - 1 ∨ z = 0 by omega) with w | w
    · exact w
    · rw [w, Int.zero_mul] at q2; omega
set_option maxHeartbeats 4000000 in
set_option maxRecDepth 100000 in
/-- Model.divide -/
theorem c_mdivide (l : Launch) (D : va_G) (cI cJ cE cF cR : ClassId) (mo fg le sg tp bl pr rs : Nat) (n dn sv rk tn ms th : Int) (q9 r9 s9 t9 a9 b9 : Nat) (F Ln T0 B0 : Nat → Int) (v1 v2 : Int) (hq9 : q9 < 188) (hr9 : r9 < 188) (hs9 : s9 < 188) (ht9 : t9 < 188) (hqr : q9 ≠ r9) (hrs : s9 ≠ r9) (hn1 : md_n F Ln s9 v1) (hn2 : md_n F Ln t9 v2) (hb1 : v1 < hx_p a9) (hb2 : v2 < hx_p b9) (hfit : a9 ≤ mdC q9) (hfit2 : b9 ≤ mdC r9) (hd0 : 0 < v2) : Cv l D (zty cI cJ cE cF cR) yX11_divide wsX11_divide (zRm 4 100) 0 0 [.ref (mo), .int (iZ (((q9 : Nat) : Int))), .int (iZ (((r9 : Nat) : Int))), .int (iZ (((s9 : Nat) : Int))), .int (iZ (((t9 : Nat) : Int)))] [(mo, mo_ fg le sg tp bl pr rs (n) (dn) (sv) (rk) (tn) (ms) (th)), (fg, aI cI (52200) (F)), (le, aI cI (190) (Ln)), (tp, aI cI (1300) (T0)), (bl, aI cI (1300) (B0))] (fun w1 => ∃ (G L1 T1 B1 : Nat → Int), w1 = [(mo, mo_ fg le sg tp bl pr rs (n) (dn) (sv) (rk) (tn) (ms) (th)), (fg, aI cI (52200) (G)), (le, aI cI (190) (L1)), (tp, aI cI (1300) (T1)), (bl, aI cI (1300) (B1))] ∧ md_d F Ln G L1 q9 r9 (v1 / v2) (v1 % v2)) := by
  unfold Cv
  refine zs (Qc := zQv D _ _) (cc := cX11_divide) (maxL := 15) (ret := none) (by decide) rfl (Nat.le_of_ble_eq_true rfl) ?_
  intro zp ze s zm below meth zc ls A args Q hQ hx hb hr hts hown hlk hml hnm hN hA hK hP hD hS hl
  have q_f_RX11_14_LimbSolverModel_length_I := hts (.fieldLink RX11 14 "LimbSolverModel" "length" "[I") (by decide +kernel)
  have hin11 : ∀ w ∈ wsX110, w ∈ wsX11_divide := by decide +kernel
  have q_f_RX11_8_LimbSolverModel_figure_I := hts (.fieldLink RX11 8 "LimbSolverModel" "figure" "[I") (by decide +kernel)
  have q_constant_RX11_75_32768 := hts (.constant RX11 75 (32768)) (by decide +kernel)
  have q_f_RX11_20_LimbSolverModel_top_I := hts (.fieldLink RX11 20 "LimbSolverModel" "top" "[I") (by decide +kernel)
  have q_constantLong_RX11_47_65536 := hts (.constantLong RX11 47 (65536)) (by decide +kernel)
  have q_f_RX11_23_LimbSolverModel_below_I := hts (.fieldLink RX11 23 "LimbSolverModel" "below" "[I") (by decide +kernel)
  have q_constant_RX11_53_65535 := hts (.constant RX11 53 (65535)) (by decide +kernel)
  have hl : lv_has ls 15 [(0, .ref (mo)), (1, .int (iZ (((q9 : Nat) : Int)))), (2, .int (iZ (((r9 : Nat) : Int)))), (3, .int (iZ (((s9 : Nat) : Int)))), (4, .int (iZ (((t9 : Nat) : Int))))] := hl
  obtain ⟨m, hLs, hvs⟩ := hn1
  obtain ⟨k, hLt, hvt⟩ := hn2
  have hm9 := hvs.1
  have hk9 := hvt.1
  have hcs := mdC_b s9
  have hct := mdC_b t9
  have hcq := mdC_b q9
  have hcr := mdC_b r9
  have hAs := mdA_b hs9
  have hAt := mdA_b ht9
  have hAq := mdA_b hq9
  have hAr := mdA_b hr9
  have hma : m ≤ a9 := hx_ok_cnt hvs hb1
  have hkb : k ≤ b9 := hx_ok_cnt hvt hb2
  have hk0 : 0 < k := by
    rcases Nat.eq_zero_or_pos k with q9 | q9
    · have := (hx_ok_zero hvt).mpr q9; omega
    · exact q9
  have m50 : ∀  (H : Heap) (locs : List Loc) (ls : Array Slot), (2 ≤ k) → (v2 ≤ v1) →  va_P D vwCl [(mo, mo_ fg le sg tp bl pr rs (n) (dn) (sv) (rk) (tn) (ms) (th)), (fg, aI cI (52200) (F)), (le, aI cI (190) (Ln)), (tp, aI cI (1300) (T0)), (bl, aI cI (1300) (B0))] H → va_D A [(mo, mo_ fg le sg tp bl pr rs (n) (dn) (sv) (rk) (tn) (ms) (th)), (fg, aI cI (52200) (F)), (le, aI cI (190) (Ln)), (tp, aI cI (1300) (T0)), (bl, aI cI (1300) (B0))] → va_S A s.heap H locs → lv_has ls 15 [(0, .ref (mo)), (1, .int (iZ (((q9 : Nat) : Int)))), (2, .int (iZ (((r9 : Nat) : Int)))), (3, .int (iZ (((s9 : Nat) : Int)))), (4, .int (iZ (((t9 : Nat) : Int))))] → W zp l ze (zRm 4 100) s zm args below meth zc H locs 0 0 Q (F0 zm 50 ls []) := by
    intro  H locs ls hk2 hle hP hD hS hl
    have hkm : k ≤ m := hx_ok_cnt hvt (Int.lt_of_le_of_lt hle (hx_ok_lt hvs))
    have bx : 0 ≤ F (mdA t9 + k - 1) ∧ F (mdA t9 + k - 1) < 65536 := by
      rw [show mdA t9 + k - 1 = mdA t9 + (k - 1) by omega]
      exact hvt.2.1 (k - 1) (by omega)
    have bx0 : F (mdA t9 + k - 1) ≠ 0 := by
      rw [show mdA t9 + k - 1 = mdA t9 + (k - 1) by omega]
      exact hvt.2.2.1 (by omega)
    have bx1 : 1 ≤ F (mdA t9 + k - 1) := by omega
    have hxe : (fun i => F (mdA t9 + i)) (k - 1) = F (mdA t9 + k - 1) := by rw [show mdA t9 + k - 1 = mdA t9 + (k - 1) by omega]
    have m100 : ∀ (sh : Nat) (H : Heap) (locs : List Loc) (ls : Array Slot), (sh ≤ 15) → (32768 ≤ (fun i => F (mdA t9 + i)) (k - 1) * bg_t sh) → ((fun i => F (mdA t9 + i)) (k - 1) * bg_t sh < 65536) →  va_P D vwCl [(mo, mo_ fg le sg tp bl pr rs (n) (dn) (sv) (rk) (tn) (ms) (th)), (fg, aI cI (52200) (F)), (le, aI cI (190) (Ln)), (tp, aI cI (1300) (T0)), (bl, aI cI (1300) (B0))] H → va_D A [(mo, mo_ fg le sg tp bl pr rs (n) (dn) (sv) (rk) (tn) (ms) (th)), (fg, aI cI (52200) (F)), (le, aI cI (190) (Ln)), (tp, aI cI (1300) (T0)), (bl, aI cI (1300) (B0))] → va_S A s.heap H locs → lv_has ls 15 [(7, .int (iZ (((sh : Nat) : Int)))), (6, .int (iZ (((m : Nat) : Int)))), (5, .int (iZ (((k : Nat) : Int)))), (0, .ref (mo)), (1, .int (iZ (((q9 : Nat) : Int)))), (2, .int (iZ (((r9 : Nat) : Int)))), (3, .int (iZ (((s9 : Nat) : Int)))), (4, .int (iZ (((t9 : Nat) : Int))))] → W zp l ze (zRm 4 100) s zm args below meth zc H locs 0 0 Q (F0 zm 100 ls []) := by
      intro sh H locs ls hsh hx1 hx2 hP hD hS hl
      have m281 : ∀ (u : Nat → Int) (v : Nat → Int) (H : Heap) (locs : List Loc) (ls : Array Slot), (hx_dg u (m + 1)) → (hx_val u (m + 1) = v1 * bg_t sh) → (hx_dg v k) → (hx_val v k = v2 * bg_t sh) → (32768 ≤ v (k - 1)) →  va_P D vwCl [(mo, mo_ fg le sg tp bl pr rs (n) (dn) (sv) (rk) (tn) (ms) (th)), (fg, aI cI (52200) (F)), (le, aI cI (190) (Ln)), (tp, aI cI (1300) (u)), (bl, aI cI (1300) (v))] H → va_D A [(mo, mo_ fg le sg tp bl pr rs (n) (dn) (sv) (rk) (tn) (ms) (th)), (fg, aI cI (52200) (F)), (le, aI cI (190) (Ln)), (tp, aI cI (1300) (u)), (bl, aI cI (1300) (v))] → va_S A s.heap H locs → lv_has ls 15 [(7, .int (iZ (((sh : Nat) : Int)))), (6, .int (iZ (((m : Nat) : Int)))), (5, .int (iZ (((k : Nat) : Int)))), (0, .ref (mo)), (1, .int (iZ (((q9 : Nat) : Int)))), (2, .int (iZ (((r9 : Nat) : Int)))), (3, .int (iZ (((s9 : Nat) : Int)))), (4, .int (iZ (((t9 : Nat) : Int))))] → W zp l ze (zRm 4 100) s zm args below meth zc H locs 0 0 Q (F0 zm 281 ls []) := by
        intro u v H locs ls hu huv hvd hVV htop hP hD hS hl
        have hVk : hx_val v k < hx_p k := hx_val_lt hvd
        have hV0 : 0 < hx_val v k := by rw [hVV]; exact Int.mul_pos hd0 (bg_t_pos sh)
        have hR0 : hx_val (fun j => u (m + 1 - k + j)) k < hx_val v k := by
          obtain ⟨mm, rfl⟩ : ∃ mm, k = mm + 1 := ⟨k - 1, by omega⟩
          exact kx_start hvs hsh (by omega) hu (by rw [huv, hvs.2.2.2]) hvd htop
        have lpR : ∀ (t : Nat) (i : Nat) (G : Nat → Int) (u : Nat → Int) (G0 : Nat → Int) (Lq : Nat → Int) (H : Heap) (locs : List Loc) (ls : Array Slot), (i + t = k) → (hx_dg u k) → (md_off G0 G r9) → (hx_dg (fun j => G (mdA r9 + j)) i) → (bg_t sh * hx_val (fun j => G (mdA r9 + j)) i = hx_val u i - u 0 % bg_t sh + ((if i < k then u i else 0) % bg_t sh) * hx_p i) → (hx_val u k / bg_t sh = v1 % v2) → (∀ s : Nat, s < 188 → s ≠ q9 → md_e F Ln G0 Lq s) → (md_n G0 Lq q9 (v1 / v2)) →  va_P D vwCl [(mo, mo_ fg le sg tp bl pr rs (n) (dn) (sv) (rk) (tn) (ms) (th)), (fg, aI cI (52200) (G)), (le, aI cI (190) (Lq)), (tp, aI cI (1300) (u)), (bl, aI cI (1300) (v))] H → va_D A [(mo, mo_ fg le sg tp bl pr rs (n) (dn) (sv) (rk) (tn) (ms) (th)), (fg, aI cI (52200) (G)), (le, aI cI (190) (Lq)), (tp, aI cI (1300) (u)), (bl, aI cI (1300) (v))] → va_S A s.heap H locs → lv_has ls 15 [(8, .int (iZ (((i : Nat) : Int)))), (7, .int (iZ (((sh : Nat) : Int)))), (6, .int (iZ (((m : Nat) : Int)))), (5, .int (iZ (((k : Nat) : Int)))), (0, .ref (mo)), (1, .int (iZ (((q9 : Nat) : Int)))), (2, .int (iZ (((r9 : Nat) : Int)))), (3, .int (iZ (((s9 : Nat) : Int)))), (4, .int (iZ (((t9 : Nat) : Int))))] → W zp l ze (zRm 4 100) s zm args below meth zc H locs 0 0 Q (F0 zm 477 ls []) := by
          intro t
          induction t with
          | zero =>
            intro i G u G0 Lq H locs ls hit hud hoff hgd hv hval hke hnq hP hD hS hl
            have hik : i = k := by omega
            have hgv : hx_val (fun j => G (mdA r9 + j)) k = v1 % v2 := by
              rw [← hval]
              exact sx_end ⟨Int.emod_nonneg _ (Int.ne_of_gt (bg_t_pos sh)), Int.emod_lt_of_pos _ (bg_t_pos sh)⟩ (by subst hik; rw [if_neg (Nat.lt_irrefl i), Int.zero_emod, Int.zero_mul, Int.add_zero] at hv; exact hv)
            refine lv_iload hx hb dX11_divide_477 (lv_at hl 0 rfl) ?_
            refine lv_iload hx hb dX11_divide_479 (lv_at hl 3 rfl) ?_
            refine zr_icmp_ge hx hb 548 ⟨by omega, by omega⟩ ⟨by omega, by omega⟩ dX11_divide_481 (by decide) (fun h_481 => ?_) (fun h_481 => ?_)
            · refine lv_aload_n hx hb dX11_divide_548 rfl (lv_at hl 4 rfl) ?_
              refine lv_iload_n hx hb dX11_divide_549 rfl (lv_at hl 6 rfl) ?_
              refine lv_iload hx hb dX11_divide_550 (lv_at hl 3 rfl) ?_
              refine zc_Vv (As := [.int (iZ (((r9 : Nat) : Int))), .int (iZ (((k : Nat) : Int)))]) (rest := []) (wr := [(tp, aI cI (1300) (u)), (bl, aI cI (1300) (v))]) ⟨hx, hb, hml, hown, hts⟩ (c_mtrim l D cI cJ cE cF cR mo fg le sg tp bl pr rs n dn sv rk tn ms th r9 k G Lq hr9 (by omega) (hik ▸ hgd)) (cwV 2 hts gX11_divide_X11_trim rfl rfl rfl (by decide +kernel) ⟨Nat.le_of_ble_eq_true rfl, Nat.le_of_ble_eq_true rfl⟩) hN hK hP hD hS hA [0, 1, 2] [3, 4] rfl rfl (by decide) (by decide) (by decide) (q0 := 0) (ci := 11) rfl rfl rfl rfl hl.1 (Nat.le_of_ble_eq_true rfl) dX11_divide_552 ⟨by decide, by decide⟩ (fun w1 H locs hp hP hD hS => ?_)
              obtain rfl : w1 = _ := hp
              have hP := hP.sub (ws' := [(mo, mo_ fg le sg tp bl pr rs (n) (dn) (sv) (rk) (tn) (ms) (th)), (fg, aI cI (52200) (G)), (le, aI cI (190) (zu Lq r9 ((hx_trim (fun i => G (mdA r9 + i)) k : Nat) : Int))), (tp, aI cI (1300) (u)), (bl, aI cI (1300) (v))]) [2, 3, 4, 0, 1] rfl
              have hD := hD.sub (ws' := [(mo, mo_ fg le sg tp bl pr rs (n) (dn) (sv) (rk) (tn) (ms) (th)), (fg, aI cI (52200) (G)), (le, aI cI (190) (zu Lq r9 ((hx_trim (fun i => G (mdA r9 + i)) k : Nat) : Int))), (tp, aI cI (1300) (u)), (bl, aI cI (1300) (v))]) [2, 3, 4, 0, 1] (by decide) rfl
              exact zr_vret hQ hx hb hr hlk dX11_divide_555 hK hP hD hS (by omega) (by omega) (⟨G, _, u, v, rfl, fun s h1 h2 h3 => (hke s h1 h2).trans (hoff.e h3), (hoff.e hqr).n hnq, _, zu_s _ _ _, by rw [← hgv]; exact hx_ok_trim (g := (fun j => G (mdA r9 + j))) (by omega) (hik ▸ hgd)⟩)
            · exfalso; omega
          | succ t ih =>
            intro i G u G0 Lq H locs ls hit hud hoff hgd hv hval hke hnq hP hD hS hl
            have bu := hud i (by omega)
            have jr : ∀ (y : Int) (H : Heap) (locs : List Loc) (ls : Array Slot), (0 ≤ y) → (y = if i + 1 < k then u (i + 1) else 0) →  va_P D vwCl [(mo, mo_ fg le sg tp bl pr rs (n) (dn) (sv) (rk) (tn) (ms) (th)), (fg, aI cI (52200) (G)), (le, aI cI (190) (Lq)), (tp, aI cI (1300) (u)), (bl, aI cI (1300) (v))] H → va_D A [(mo, mo_ fg le sg tp bl pr rs (n) (dn) (sv) (rk) (tn) (ms) (th)), (fg, aI cI (52200) (G)), (le, aI cI (190) (Lq)), (tp, aI cI (1300) (u)), (bl, aI cI (1300) (v))] → va_S A s.heap H locs → lv_has ls 15 [(9, .int (iZ (y * bg_t (16 - sh)))), (8, .int (iZ (((i : Nat) : Int)))), (7, .int (iZ (((sh : Nat) : Int)))), (6, .int (iZ (((m : Nat) : Int)))), (5, .int (iZ (((k : Nat) : Int)))), (0, .ref (mo)), (1, .int (iZ (((q9 : Nat) : Int)))), (2, .int (iZ (((r9 : Nat) : Int)))), (3, .int (iZ (((s9 : Nat) : Int)))), (4, .int (iZ (((t9 : Nat) : Int))))] → W zp l ze (zRm 4 100) s zm args below meth zc H locs 0 0 Q (F0 zm 514 ls []) := by
              intro y H locs ls hy0 hyd hP hD hS hl
              refine lv_aload_n hx hb dX11_divide_514 rfl (lv_at hl 5 rfl) ?_
              refine va_get (D := D) (ci := 11) (v := .ref (fg)) (C := RX11) (T := TX11) (N := 14) hx hb hts hin11 hown hK hP 0 rfl rfl 0 (by decide) q_f_RX11_8_LimbSolverModel_figure_I (fun _ h9 => h9) rfl dX11_divide_515 ?_
              refine lv_iload_n hx hb dX11_divide_518 rfl (lv_at hl 7 rfl) ?_
              refine zc_Si (As := [.int (iZ (((r9 : Nat) : Int)))]) (rest := [.ref (fg)]) (wr := [(mo, mo_ fg le sg tp bl pr rs (n) (dn) (sv) (rk) (tn) (ms) (th)), (fg, aI cI (52200) (G)), (le, aI cI (190) (Lq)), (tp, aI cI (1300) (u)), (bl, aI cI (1300) (v))]) ⟨hx, hb, hml, hown, hts⟩ (c_at l D cI cJ cE cF cR r9 (by omega)) (va_cwS 1 hts gX11_divide_X11_at rfl rfl rfl (by decide +kernel) ⟨Nat.le_of_ble_eq_true rfl, Nat.le_of_ble_eq_true rfl⟩) hN hK hP hD hS hA [] [0, 1, 2, 3, 4] rfl rfl (by decide) (by decide) (by decide) rfl hl.1 (Nat.le_of_ble_eq_true rfl) dX11_divide_519 ⟨by decide, by decide⟩ (fun z519 w1 H locs hz519 hp hP hD hS => ?_)
              obtain ⟨hw9, hx0⟩ := hp
              subst hw9
              subst hx0
              have hP := hP.sub (ws' := [(mo, mo_ fg le sg tp bl pr rs (n) (dn) (sv) (rk) (tn) (ms) (th)), (fg, aI cI (52200) (G)), (le, aI cI (190) (Lq)), (tp, aI cI (1300) (u)), (bl, aI cI (1300) (v))]) [0, 1, 2, 3, 4] rfl
              have hD := hD.sub (ws' := [(mo, mo_ fg le sg tp bl pr rs (n) (dn) (sv) (rk) (tn) (ms) (th)), (fg, aI cI (52200) (G)), (le, aI cI (190) (Lq)), (tp, aI cI (1300) (u)), (bl, aI cI (1300) (v))]) [0, 1, 2, 3, 4] (by decide) rfl
              refine lv_iload hx hb dX11_divide_522 (lv_at hl 1 rfl) ?_
              refine zr_iadd hx hb dX11_divide_524 ?_
              refine lv_aload_n hx hb dX11_divide_525 rfl (lv_at hl 5 rfl) ?_
              refine va_get (D := D) (ci := 11) (v := .ref (tp)) (C := RX11) (T := TX11) (N := 14) hx hb hts hin11 hown hK hP 0 rfl rfl 3 (by decide) q_f_RX11_20_LimbSolverModel_top_I (fun _ h9 => h9) rfl dX11_divide_526 ?_
              refine lv_iload hx hb dX11_divide_529 (lv_at hl 1 rfl) ?_
              refine zr_iald hx hb hK hP 3 0 rfl rfl (i) (by omega) (by omega) (by omega) dX11_divide_531 ?_
              refine lv_iload hx hb dX11_divide_532 (lv_at hl 2 rfl) ?_
              refine zr_ishr (k := sh) hx hb ⟨by omega, by omega⟩ (by omega) dX11_divide_534 ?_
              refine zr_eqi (u i / bg_t sh) rfl ?_
              refine lv_iload hx hb dX11_divide_535 (lv_at hl 0 rfl) ?_
              refine zr_iorC hx hb (16 - sh) (by omega) (hy0) (md_sr_b hsh bu) dX11_divide_537 ?_
              refine zr_eqi ((y * 65536 + u i) / bg_t sh) (md_sr hsh) ?_
              refine zr_ldc hx hb 65535 (by decide) hown q_constant_RX11_53_65535 dX11_divide_538 ?_
              refine zr_iand hx hb 16 (by decide) (by decide) dX11_divide_540 ?_
              refine zr_eqi (((y * 65536 + u i) / bg_t sh) % 65536) (by rfl) ?_
              refine zr_iast hx hb hK hP hD hS 1 0 rfl rfl (mdA r9 + i) (by omega) (by omega) (by omega) dX11_divide_541 (fun H locs hP hD hS => ?_)
              have hP : va_P D vwCl [(mo, mo_ fg le sg tp bl pr rs (n) (dn) (sv) (rk) (tn) (ms) (th)), (fg, aI cI (52200) (zu (G) (mdA r9 + i) (((y * 65536 + u i) / bg_t sh) % 65536))), (le, aI cI (190) (Lq)), (tp, aI cI (1300) (u)), (bl, aI cI (1300) (v))] H := hP
              have hD : va_D A [(mo, mo_ fg le sg tp bl pr rs (n) (dn) (sv) (rk) (tn) (ms) (th)), (fg, aI cI (52200) (zu (G) (mdA r9 + i) (((y * 65536 + u i) / bg_t sh) % 65536))), (le, aI cI (190) (Lq)), (tp, aI cI (1300) (u)), (bl, aI cI (1300) (v))] := hD
              refine lv_iinc (v := iZ (((i + 1 : Nat) : Int))) (lv' := [(8, .int (iZ (((i + 1 : Nat) : Int)))), (9, .int (iZ (y * bg_t (16 - sh)))), (7, .int (iZ (((sh : Nat) : Int)))), (6, .int (iZ (((m : Nat) : Int)))), (5, .int (iZ (((k : Nat) : Int)))), (0, .ref (mo)), (1, .int (iZ (((q9 : Nat) : Int)))), (2, .int (iZ (((r9 : Nat) : Int)))), (3, .int (iZ (((s9 : Nat) : Int)))), (4, .int (iZ (((t9 : Nat) : Int))))]) hx hb dX11_divide_542 hl (k := 1) rfl (by rw [show ((i + 1 : Nat) : Int) = ((i : Nat) : Int) + 1 by omega]; exact iZ_add _ _) (by decide) rfl (fun ls hl => ?_)
              refine lv_goto (tgt := 477) hx hb dX11_divide_545 (by decide) ?_
              exact ih (i + 1) (zu G (mdA r9 + i) ((y * 65536 + u i) / bg_t sh % 65536)) u G0 Lq H locs ls (by omega) hud (md_off_zu hoff (by omega)) (by rw [hx_zu_shift]; exact hx_zu_dgs hgd (hx_mod _)) (by rw [hx_zu_shift, ← hyd]; rw [if_pos (show i < k by omega)] at hv; exact sx_step hsh bu hy0 hv) hval hke hnq hP hD hS (lv_sub hl [0, 2, 3, 4, 5, 6, 7, 8, 9] rfl)
            refine lv_iload hx hb dX11_divide_477 (lv_at hl 0 rfl) ?_
            refine lv_iload hx hb dX11_divide_479 (lv_at hl 3 rfl) ?_
            refine zr_icmp_ge hx hb 548 ⟨by omega, by omega⟩ ⟨by omega, by omega⟩ dX11_divide_481 (by decide) (fun h_481 => ?_) (fun h_481 => ?_)
            · exfalso; omega
            · refine lv_iload hx hb dX11_divide_484 (lv_at hl 0 rfl) ?_
              refine lv_iconst (v := iZ 1) hx hb dX11_divide_486 rfl ?_
              refine zr_iadd hx hb dX11_divide_487 ?_
              refine lv_iload hx hb dX11_divide_488 (lv_at hl 3 rfl) ?_
              refine zr_icmp_ge hx hb 511 ⟨by omega, by omega⟩ ⟨by omega, by omega⟩ dX11_divide_490 (by decide) (fun h_490 => ?_) (fun h_490 => ?_)
              · refine lv_iconst (v := iZ 0) hx hb dX11_divide_511 rfl ?_
                refine zr_eqi (0 * bg_t (16 - sh)) (by rw [Int.zero_mul]) ?_
                refine lv_istore (lv' := [(9, .int (iZ (0 * bg_t (16 - sh)))), (8, .int (iZ (((i : Nat) : Int)))), (7, .int (iZ (((sh : Nat) : Int)))), (6, .int (iZ (((m : Nat) : Int)))), (5, .int (iZ (((k : Nat) : Int)))), (0, .ref (mo)), (1, .int (iZ (((q9 : Nat) : Int)))), (2, .int (iZ (((r9 : Nat) : Int)))), (3, .int (iZ (((s9 : Nat) : Int)))), (4, .int (iZ (((t9 : Nat) : Int))))]) hx hb dX11_divide_512 hl (by decide) rfl (fun ls hl => ?_)
                exact jr 0 H locs ls (by omega) (by rw [if_neg (by omega)]) hP hD hS (lv_sub hl [0, 1, 2, 3, 4, 5, 6, 7, 8, 9] rfl)
              · have bu1 := hud (i + 1) (by omega)
                refine lv_aload_n hx hb dX11_divide_493 rfl (lv_at hl 4 rfl) ?_
                refine va_get (D := D) (ci := 11) (v := .ref (tp)) (C := RX11) (T := TX11) (N := 14) hx hb hts hin11 hown hK hP 0 rfl rfl 3 (by decide) q_f_RX11_20_LimbSolverModel_top_I (fun _ h9 => h9) rfl dX11_divide_494 ?_
                refine lv_iload hx hb dX11_divide_497 (lv_at hl 0 rfl) ?_
                refine lv_iconst (v := iZ 1) hx hb dX11_divide_499 rfl ?_
                refine zr_iadd hx hb dX11_divide_500 ?_
                refine zr_iald hx hb hK hP 3 0 rfl rfl (i + 1) (by omega) (by omega) (by omega) dX11_divide_501 ?_
                refine lv_bipush (v := iZ 16) hx hb dX11_divide_502 (by decide) ?_
                refine lv_iload hx hb dX11_divide_504 (lv_at hl 1 rfl) ?_
                refine zr_isub hx hb dX11_divide_506 ?_
                refine zr_eqi (((16 - sh : Nat) : Int)) (by omega) ?_
                refine zr_ishl (k := 16 - sh) hx hb (by omega) dX11_divide_507 ?_
                refine zr_eqi (u (i + 1) * bg_t (16 - sh)) rfl ?_
                refine lv_goto (tgt := 512) hx hb dX11_divide_508 (by decide) ?_
                refine lv_istore (lv' := [(9, .int (iZ (u (i + 1) * bg_t (16 - sh)))), (8, .int (iZ (((i : Nat) : Int)))), (7, .int (iZ (((sh : Nat) : Int)))), (6, .int (iZ (((m : Nat) : Int)))), (5, .int (iZ (((k : Nat) : Int)))), (0, .ref (mo)), (1, .int (iZ (((q9 : Nat) : Int)))), (2, .int (iZ (((r9 : Nat) : Int)))), (3, .int (iZ (((s9 : Nat) : Int)))), (4, .int (iZ (((t9 : Nat) : Int))))]) hx hb dX11_divide_512 hl (by decide) rfl (fun ls hl => ?_)
                exact jr (u (i + 1)) H locs ls (by omega) (by rw [if_pos (by omega)]) hP hD hS (lv_sub hl [0, 1, 2, 3, 4, 5, 6, 7, 8, 9] rfl)
        have lpM : ∀ (t : Nat) (u : Nat → Int) (gq : Nat → Int) (G : Nat → Int) (H : Heap) (locs : List Loc) (ls : Array Slot), (t ≤ m + 1 - k) → (hx_dg u (m + 1)) → (md_off F G q9) → (∀ j : Nat, G (mdA q9 + j) = gq j) → (∀ j : Nat, t ≤ j → j < m + 1 - k → 0 ≤ gq j ∧ gq j < 65536) → (v1 * bg_t sh = hx_val (fun j => gq (t + j)) (m + 1 - k - t) * hx_p t * hx_val v k + hx_val u (t + k)) → (hx_val (fun j => u (t + j)) k < hx_val v k) →  va_P D vwCl [(mo, mo_ fg le sg tp bl pr rs (n) (dn) (sv) (rk) (tn) (ms) (th)), (fg, aI cI (52200) (G)), (le, aI cI (190) (Ln)), (tp, aI cI (1300) (u)), (bl, aI cI (1300) (v))] H → va_D A [(mo, mo_ fg le sg tp bl pr rs (n) (dn) (sv) (rk) (tn) (ms) (th)), (fg, aI cI (52200) (G)), (le, aI cI (190) (Ln)), (tp, aI cI (1300) (u)), (bl, aI cI (1300) (v))] → va_S A s.heap H locs → lv_has ls 15 [(8, .int (iZ (((t : Nat) : Int) - 1))), (7, .int (iZ (((sh : Nat) : Int)))), (6, .int (iZ (((m : Nat) : Int)))), (5, .int (iZ (((k : Nat) : Int)))), (0, .ref (mo)), (1, .int (iZ (((q9 : Nat) : Int)))), (2, .int (iZ (((r9 : Nat) : Int)))), (3, .int (iZ (((s9 : Nat) : Int)))), (4, .int (iZ (((t9 : Nat) : Int))))] → W zp l ze (zRm 4 100) s zm args below meth zc H locs 0 0 Q (F0 zm 288 ls []) := by
          intro t
          induction t with
          | zero =>
            intro u gq G H locs ls htT hu hoff hGq hgq hAq hR hP hD hS hl
            have f1 : v1 * bg_t sh = hx_val gq (m + 1 - k) * (v2 * bg_t sh) + hx_val u k := by
              have q1 := hAq
              simp only [Nat.zero_add, Nat.sub_zero, hx_p0, Int.mul_one] at q1
              rw [hVV] at q1
              exact q1
            have f2 : hx_val u k < v2 * bg_t sh := by
              have q1 := hR
              simp only [Nat.zero_add] at q1
              rw [hVV] at q1
              exact q1
            have f5 : hx_val (fun j => G (mdA q9 + j)) (m + 1 - k) = hx_val gq (m + 1 - k) := hx_val_congr (fun j _ => hGq j)
            obtain ⟨f3, f4⟩ := kx_fin (bg_t_pos sh) hd0 f1 ⟨hx_val_nn (hx_dg_le hu (by omega)), f2⟩
            rw [← f5] at f3
            have hgd0 : hx_dg (fun j => G (mdA q9 + j)) (m + 1 - k) := fun j hj => by
              dsimp only
              rw [hGq j]
              exact hgq j (Nat.zero_le j) hj
            refine lv_iload hx hb dX11_divide_288 (lv_at hl 0 rfl) ?_
            refine zr_if_lt hx hb 462 ⟨by omega, by omega⟩ dX11_divide_290 (by decide) (fun h_290 => ?_) (fun h_290 => ?_)
            · refine lv_aload_n hx hb dX11_divide_462 rfl (lv_at hl 4 rfl) ?_
              refine lv_iload_n hx hb dX11_divide_463 rfl (lv_at hl 5 rfl) ?_
              refine lv_iload hx hb dX11_divide_464 (lv_at hl 2 rfl) ?_
              refine lv_iload hx hb dX11_divide_466 (lv_at hl 3 rfl) ?_
              refine zr_isub hx hb dX11_divide_468 ?_
              refine lv_iconst (v := iZ 1) hx hb dX11_divide_469 rfl ?_
              refine zr_iadd hx hb dX11_divide_470 ?_
              refine zr_eqi (((m + 1 - k : Nat) : Int)) (by omega) ?_
              refine zc_Vv (As := [.int (iZ (((q9 : Nat) : Int))), .int (iZ (((m + 1 - k : Nat) : Int)))]) (rest := []) (wr := [(tp, aI cI (1300) (u)), (bl, aI cI (1300) (v))]) ⟨hx, hb, hml, hown, hts⟩ (c_mtrim l D cI cJ cE cF cR mo fg le sg tp bl pr rs n dn sv rk tn ms th q9 (m + 1 - k) G Ln hq9 (by omega) hgd0) (cwV 2 hts gX11_divide_X11_trim rfl rfl rfl (by decide +kernel) ⟨Nat.le_of_ble_eq_true rfl, Nat.le_of_ble_eq_true rfl⟩) hN hK hP hD hS hA [0, 1, 2] [3, 4] rfl rfl (by decide) (by decide) (by decide) (q0 := 0) (ci := 11) rfl rfl rfl rfl hl.1 (Nat.le_of_ble_eq_true rfl) dX11_divide_471 ⟨by decide, by decide⟩ (fun w1 H locs hp hP hD hS => ?_)
              obtain rfl : w1 = _ := hp
              have hP := hP.sub (ws' := [(mo, mo_ fg le sg tp bl pr rs (n) (dn) (sv) (rk) (tn) (ms) (th)), (fg, aI cI (52200) (G)), (le, aI cI (190) (zu Ln q9 ((hx_trim (fun i => G (mdA q9 + i)) (m + 1 - k) : Nat) : Int))), (tp, aI cI (1300) (u)), (bl, aI cI (1300) (v))]) [2, 3, 4, 0, 1] rfl
              have hD := hD.sub (ws' := [(mo, mo_ fg le sg tp bl pr rs (n) (dn) (sv) (rk) (tn) (ms) (th)), (fg, aI cI (52200) (G)), (le, aI cI (190) (zu Ln q9 ((hx_trim (fun i => G (mdA q9 + i)) (m + 1 - k) : Nat) : Int))), (tp, aI cI (1300) (u)), (bl, aI cI (1300) (v))]) [2, 3, 4, 0, 1] (by decide) rfl
              refine lv_iconst (v := iZ 0) hx hb dX11_divide_474 rfl ?_
              refine lv_istore (lv' := [(8, .int (iZ (0))), (7, .int (iZ (((sh : Nat) : Int)))), (6, .int (iZ (((m : Nat) : Int)))), (5, .int (iZ (((k : Nat) : Int)))), (0, .ref (mo)), (1, .int (iZ (((q9 : Nat) : Int)))), (2, .int (iZ (((r9 : Nat) : Int)))), (3, .int (iZ (((s9 : Nat) : Int)))), (4, .int (iZ (((t9 : Nat) : Int))))]) hx hb dX11_divide_475 hl (by decide) rfl (fun ls hl => ?_)
              exact lpR k 0 G u G _ H locs ls (by omega) (hx_dg_le hu (by omega)) (md_off_refl G r9) (fun j hj => absurd hj (Nat.not_lt_zero j)) (by rw [if_pos hk0, hx_v0, hx_v0, hx_p0, Int.mul_zero]; omega) f4 (fun s _ h2 => hoff.e h2) ⟨_, zu_s _ _ _, by rw [← f3]; exact hx_ok_trim (g := (fun j => G (mdA q9 + j))) (by omega) hgd0⟩ hP hD hS (lv_sub hl [0, 1, 2, 3, 4, 5, 6, 7, 8] rfl)
            · exfalso; omega
          | succ t ih =>
            intro u gq G H locs ls htT hu hoff hGq hgq hAq hR hP hD hS hl
            have hUV := kx_win hu (show t + k < m + 1 by omega) hR
            have hU0 := hx_val_nn (hx_win_dg hu (show t + (k + 1) ≤ m + 1 by omega))
            have bN := hvd (k - 2) (by omega)
            have bH := hvd (k - 1) (by omega)
            have bt3 := hu (t + k - 2) (by omega)
            have bt1 := hu (t + k) (by omega)
            have bt2 := hu (t + k - 1) (by omega)
            have jt : ∀ (z : Int) (H : Heap) (locs : List Loc) (ls : Array Slot), (0 ≤ z ∧ z < 65536) → (∀ q : Int, 0 ≤ q → q * hx_val v k ≤ hx_val (fun j => u (t + j)) (k + 1) → q ≤ z) → ((z - 1) * hx_val v k ≤ hx_val (fun j => u (t + j)) (k + 1)) →  va_P D vwCl [(mo, mo_ fg le sg tp bl pr rs (n) (dn) (sv) (rk) (tn) (ms) (th)), (fg, aI cI (52200) (G)), (le, aI cI (190) (Ln)), (tp, aI cI (1300) (u)), (bl, aI cI (1300) (v))] H → va_D A [(mo, mo_ fg le sg tp bl pr rs (n) (dn) (sv) (rk) (tn) (ms) (th)), (fg, aI cI (52200) (G)), (le, aI cI (190) (Ln)), (tp, aI cI (1300) (u)), (bl, aI cI (1300) (v))] → va_S A s.heap H locs → lv_has ls 15 [(11, .long (lZ (z))), (8, .int (iZ (((t : Nat) : Int)))), (7, .int (iZ (((sh : Nat) : Int)))), (6, .int (iZ (((m : Nat) : Int)))), (5, .int (iZ (((k : Nat) : Int)))), (0, .ref (mo)), (1, .int (iZ (((q9 : Nat) : Int)))), (2, .int (iZ (((r9 : Nat) : Int)))), (3, .int (iZ (((s9 : Nat) : Int)))), (4, .int (iZ (((t9 : Nat) : Int))))] → W zp l ze (zRm 4 100) s zm args below meth zc H locs 0 0 Q (F0 zm 433 ls []) := by
              intro z H locs ls hz hzq hz1 hP hD hS hl
              refine lv_aload_n hx hb dX11_divide_433 rfl (lv_at hl 5 rfl) ?_
              refine va_get (D := D) (ci := 11) (v := .ref (fg)) (C := RX11) (T := TX11) (N := 14) hx hb hts hin11 hown hK hP 0 rfl rfl 0 (by decide) q_f_RX11_8_LimbSolverModel_figure_I (fun _ h9 => h9) rfl dX11_divide_434 ?_
              refine lv_iload_n hx hb dX11_divide_437 rfl (lv_at hl 6 rfl) ?_
              refine zc_Si (As := [.int (iZ (((q9 : Nat) : Int)))]) (rest := [.ref (fg)]) (wr := [(mo, mo_ fg le sg tp bl pr rs (n) (dn) (sv) (rk) (tn) (ms) (th)), (fg, aI cI (52200) (G)), (le, aI cI (190) (Ln)), (tp, aI cI (1300) (u)), (bl, aI cI (1300) (v))]) ⟨hx, hb, hml, hown, hts⟩ (c_at l D cI cJ cE cF cR q9 (by omega)) (va_cwS 1 hts gX11_divide_X11_at rfl rfl rfl (by decide +kernel) ⟨Nat.le_of_ble_eq_true rfl, Nat.le_of_ble_eq_true rfl⟩) hN hK hP hD hS hA [] [0, 1, 2, 3, 4] rfl rfl (by decide) (by decide) (by decide) rfl hl.1 (Nat.le_of_ble_eq_true rfl) dX11_divide_438 ⟨by decide, by decide⟩ (fun z438 w1 H locs hz438 hp hP hD hS => ?_)
              obtain ⟨hw9, hx0⟩ := hp
              subst hw9
              subst hx0
              have hP := hP.sub (ws' := [(mo, mo_ fg le sg tp bl pr rs (n) (dn) (sv) (rk) (tn) (ms) (th)), (fg, aI cI (52200) (G)), (le, aI cI (190) (Ln)), (tp, aI cI (1300) (u)), (bl, aI cI (1300) (v))]) [0, 1, 2, 3, 4] rfl
              have hD := hD.sub (ws' := [(mo, mo_ fg le sg tp bl pr rs (n) (dn) (sv) (rk) (tn) (ms) (th)), (fg, aI cI (52200) (G)), (le, aI cI (190) (Ln)), (tp, aI cI (1300) (u)), (bl, aI cI (1300) (v))]) [0, 1, 2, 3, 4] (by decide) rfl
              refine lv_iload hx hb dX11_divide_441 (lv_at hl 1 rfl) ?_
              refine zr_iadd hx hb dX11_divide_443 ?_
              refine lv_aload_n hx hb dX11_divide_444 rfl (lv_at hl 5 rfl) ?_
              refine lv_iload hx hb dX11_divide_445 (lv_at hl 1 rfl) ?_
              refine lv_iload hx hb dX11_divide_447 (lv_at hl 4 rfl) ?_
              refine lv_lload hx hb dX11_divide_449 (lv_at hl 0 rfl) ?_
              refine zc_Vl (As := [.int (iZ (((t : Nat) : Int))), .int (iZ (((k : Nat) : Int))), .long (lZ (z))]) (rest := [.int (iZ ((((mdA q9 : Nat) : Int)) + (((t : Nat) : Int)))), .ref (fg)]) (wr := [(fg, aI cI (52200) (G)), (le, aI cI (190) (Ln))]) ⟨hx, hb, hml, hown, hts⟩ (c_mtakeAway l D cI cJ cE cF cR mo fg le sg tp bl pr rs n dn sv rk tn ms th k t (m + 1) z u v hz hu hvd (by omega) (by omega) hz1) (cwV 3 hts gX11_divide_X11_takeAway rfl rfl rfl (by decide +kernel) ⟨Nat.le_of_ble_eq_true rfl, Nat.le_of_ble_eq_true rfl⟩) hN hK hP hD hS hA [0, 3, 4] [1, 2] rfl rfl (by decide) (by decide) (by decide) (q0 := 0) (ci := 11) rfl rfl rfl rfl hl.1 (Nat.le_of_ble_eq_true rfl) dX11_divide_451 ⟨by decide, by decide⟩ (fun zr w1 H locs hz451 hp hP hD hS => ?_)
              obtain ⟨u2, hw9, hu2, hsame, hw, hrz⟩ := hp
              subst hw9
              have hzr := md_qr hV0 hU0 hz hzq hz1 hrz
              have hP := hP.sub (ws' := [(mo, mo_ fg le sg tp bl pr rs (n) (dn) (sv) (rk) (tn) (ms) (th)), (fg, aI cI (52200) (G)), (le, aI cI (190) (Ln)), (tp, aI cI (1300) (u2)), (bl, aI cI (1300) (v))]) [2, 0, 1, 3, 4] rfl
              have hD := hD.sub (ws' := [(mo, mo_ fg le sg tp bl pr rs (n) (dn) (sv) (rk) (tn) (ms) (th)), (fg, aI cI (52200) (G)), (le, aI cI (190) (Ln)), (tp, aI cI (1300) (u2)), (bl, aI cI (1300) (v))]) [2, 0, 1, 3, 4] (by decide) rfl
              refine zr_l2i hx hb dX11_divide_454 ?_
              refine zr_iast hx hb hK hP hD hS 1 0 rfl rfl (mdA q9 + t) (by omega) (by omega) (by omega) dX11_divide_455 (fun H locs hP hD hS => ?_)
              have hP : va_P D vwCl [(mo, mo_ fg le sg tp bl pr rs (n) (dn) (sv) (rk) (tn) (ms) (th)), (fg, aI cI (52200) (zu (G) (mdA q9 + t) (zr))), (le, aI cI (190) (Ln)), (tp, aI cI (1300) (u2)), (bl, aI cI (1300) (v))] H := hP
              have hD : va_D A [(mo, mo_ fg le sg tp bl pr rs (n) (dn) (sv) (rk) (tn) (ms) (th)), (fg, aI cI (52200) (zu (G) (mdA q9 + t) (zr))), (le, aI cI (190) (Ln)), (tp, aI cI (1300) (u2)), (bl, aI cI (1300) (v))] := hD
              refine lv_iinc (v := iZ (((t : Nat) : Int) - 1)) (lv' := [(8, .int (iZ (((t : Nat) : Int) - 1))), (11, .long (lZ (z))), (7, .int (iZ (((sh : Nat) : Int)))), (6, .int (iZ (((m : Nat) : Int)))), (5, .int (iZ (((k : Nat) : Int)))), (0, .ref (mo)), (1, .int (iZ (((q9 : Nat) : Int)))), (2, .int (iZ (((r9 : Nat) : Int)))), (3, .int (iZ (((s9 : Nat) : Int)))), (4, .int (iZ (((t9 : Nat) : Int))))]) hx hb dX11_divide_456 hl (k := 1) rfl (iZ_add _ _) (by decide) rfl (fun ls hl => ?_)
              refine lv_goto (tgt := 288) hx hb dX11_divide_459 (by decide) ?_
              exact ih u2 (zu gq t zr) (zu G (mdA q9 + t) zr) H locs ls (by omega) hu2 (md_off_zu hoff (by omega)) (fun j => by by_cases q : j = t; (subst q; rw [zu_s, zu_s]); (rw [zu_n G _ (by omega), zu_n gq _ q]; exact hGq j)) (fun j q1 q2 => by by_cases q3 : j = t; (subst q3; rw [zu_s]; exact hzr.1); (rw [zu_n gq zr q3]; exact hgq j (by omega) q2)) (kx_div_step (by omega) (by omega) hu2 hVk hsame hzr.2 hw hAq).1 (kx_div_step (by omega) (by omega) hu2 hVk hsame hzr.2 hw hAq).2 hP hD hS (lv_sub hl [0, 2, 3, 4, 5, 6, 7, 8, 9] rfl)
            have ex : ((t + 1 : Nat) : Int) - 1 = ((t : Nat) : Int) := by omega
            rw [ex] at hl
            refine lv_iload hx hb dX11_divide_288 (lv_at hl 0 rfl) ?_
            refine zr_if_lt hx hb 462 ⟨by omega, by omega⟩ dX11_divide_290 (by decide) (fun h_290 => ?_) (fun h_290 => ?_)
            · exfalso; omega
            · refine lv_aload_n hx hb dX11_divide_293 rfl (lv_at hl 4 rfl) ?_
              refine va_get (D := D) (ci := 11) (v := .ref (tp)) (C := RX11) (T := TX11) (N := 14) hx hb hts hin11 hown hK hP 0 rfl rfl 3 (by decide) q_f_RX11_20_LimbSolverModel_top_I (fun _ h9 => h9) rfl dX11_divide_294 ?_
              refine lv_iload hx hb dX11_divide_297 (lv_at hl 0 rfl) ?_
              refine lv_iload hx hb dX11_divide_299 (lv_at hl 3 rfl) ?_
              refine zr_iadd hx hb dX11_divide_301 ?_
              refine zr_iald hx hb hK hP 3 0 rfl rfl (t + k) (by omega) (by omega) (by omega) dX11_divide_302 ?_
              refine zr_i2l hx hb ⟨by omega, by omega⟩ dX11_divide_303 ?_
              refine zr_ldc2 hx hb 65536 (by decide) hown q_constantLong_RX11_47_65536 dX11_divide_304 ?_
              refine zr_lmul hx hb dX11_divide_307 ?_
              refine lv_aload_n hx hb dX11_divide_308 rfl (lv_at hl 4 rfl) ?_
              refine va_get (D := D) (ci := 11) (v := .ref (tp)) (C := RX11) (T := TX11) (N := 14) hx hb hts hin11 hown hK hP 0 rfl rfl 3 (by decide) q_f_RX11_20_LimbSolverModel_top_I (fun _ h9 => h9) rfl dX11_divide_309 ?_
              refine lv_iload hx hb dX11_divide_312 (lv_at hl 0 rfl) ?_
              refine lv_iload hx hb dX11_divide_314 (lv_at hl 3 rfl) ?_
              refine zr_iadd hx hb dX11_divide_316 ?_
              refine lv_iconst (v := iZ 1) hx hb dX11_divide_317 rfl ?_
              refine zr_isub hx hb dX11_divide_318 ?_
              refine zr_iald hx hb hK hP 3 0 rfl rfl (t + k - 1) (by omega) (by omega) (by omega) dX11_divide_319 ?_
              refine zr_i2l hx hb ⟨by omega, by omega⟩ dX11_divide_320 ?_
              refine zr_ladd hx hb dX11_divide_321 ?_
              refine zr_topl (fun pr hpr => ?_)
              have hK2 : kx_K (hx_val v k) (hx_val (fun j => u (t + j)) (k + 1)) (v (k - 1)) (v (k - 2)) (u (t + k - 2)) pr := by
                obtain ⟨mm, rfl⟩ : ∃ mm, k = mm + 2 := ⟨k - 2, by omega⟩
                rw [hpr]
                exact kx_K_two hu (by omega) hvd hUV
              obtain ⟨z0, hz0⟩ : ∃ z0 : Nat, pr / v (k - 1) = (z0 : Int) := ⟨(pr / v (k - 1)).toNat, (Int.toNat_of_nonneg (Int.ediv_nonneg (by omega) (by omega))).symm⟩
              have hpr0 : 0 ≤ pr := by omega
              have gl : ∀ (zt : Nat) (left : Int) (ls : Array Slot), left = pr - (zt : Int) * v (k - 1) → 0 ≤ left → (∀ q : Int, 0 ≤ q → q * hx_val v k ≤ hx_val (fun j => u (t + j)) (k + 1) → q ≤ (zt : Int)) → lv_has ls 15 [(13, .long (lZ (left))), (11, .long (lZ (((zt : Nat) : Int)))), (9, .long (lZ (pr))), (8, .int (iZ (((t : Nat) : Int)))), (7, .int (iZ (((sh : Nat) : Int)))), (6, .int (iZ (((m : Nat) : Int)))), (5, .int (iZ (((k : Nat) : Int)))), (0, .ref (mo)), (1, .int (iZ (((q9 : Nat) : Int)))), (2, .int (iZ (((r9 : Nat) : Int)))), (3, .int (iZ (((s9 : Nat) : Int)))), (4, .int (iZ (((t9 : Nat) : Int))))] → W zp l ze (zRm 4 100) s zm args below meth zc H locs 0 0 Q (F0 zm 354 ls []) := by
                intro zt
                induction zt with
                | zero =>
                  intro left ls hlf hl0 hq hl
                  have hlp : left ≤ pr := by rw [hlf]; omega
                  refine lv_lload hx hb dX11_divide_354 (lv_at hl 1 rfl) ?_
                  refine zr_ldc2 hx hb 65536 (by decide) hown q_constantLong_RX11_47_65536 dX11_divide_356 ?_
                  refine zr_lcmp_ge hx hb 409 ⟨by omega, by omega⟩ ⟨by omega, by omega⟩ dX11_divide_359 dX11_divide_360 (by decide) (fun h_359 => ?_) (fun h_359 => ?_)
                  · exfalso; omega
                  · refine lv_lload hx hb dX11_divide_363 (lv_at hl 0 rfl) ?_
                    refine zr_ldc2 hx hb 65536 (by decide) hown q_constantLong_RX11_47_65536 dX11_divide_365 ?_
                    refine zr_lcmp_ge hx hb 433 ⟨by omega, by omega⟩ ⟨by omega, by omega⟩ dX11_divide_368 dX11_divide_369 (by decide) (fun h_368 => ?_) (fun h_368 => ?_)
                    · exact jt ((0 : Nat) : Int) H locs ls ⟨by omega, by omega⟩ hq (kx_K_close hK2 ⟨by omega, by omega⟩ hlf bN.1 (by omega) (by have bm := hx_mul_dg (x := ((0 : Nat) : Int)) (y := v (k - 2)) ⟨by omega, by omega⟩ bN; omega)) hP hD hS (lv_sub hl [1, 3, 4, 5, 6, 7, 8, 9, 10, 11] rfl)
                    · have bm := hx_mul_dg (x := ((0 : Nat) : Int)) (y := v (k - 2)) ⟨by omega, by omega⟩ bN
                      refine lv_lload hx hb dX11_divide_372 (lv_at hl 1 rfl) ?_
                      refine lv_aload_n hx hb dX11_divide_374 rfl (lv_at hl 7 rfl) ?_
                      refine va_get (D := D) (ci := 11) (v := .ref (bl)) (C := RX11) (T := TX11) (N := 14) hx hb hts hin11 hown hK hP 0 rfl rfl 4 (by decide) q_f_RX11_23_LimbSolverModel_below_I (fun _ h9 => h9) rfl dX11_divide_375 ?_
                      refine lv_iload hx hb dX11_divide_378 (lv_at hl 6 rfl) ?_
                      refine lv_iconst (v := iZ 2) hx hb dX11_divide_380 rfl ?_
                      refine zr_isub hx hb dX11_divide_381 ?_
                      refine zr_iald hx hb hK hP 4 0 rfl rfl (k - 2) (by omega) (by omega) (by omega) dX11_divide_382 ?_
                      refine zr_i2l hx hb ⟨by omega, by omega⟩ dX11_divide_383 ?_
                      refine zr_lmul hx hb dX11_divide_384 ?_
                      refine lv_lload hx hb dX11_divide_385 (lv_at hl 0 rfl) ?_
                      refine zr_ldc2 hx hb 65536 (by decide) hown q_constantLong_RX11_47_65536 dX11_divide_387 ?_
                      refine zr_lmul hx hb dX11_divide_390 ?_
                      refine lv_aload_n hx hb dX11_divide_391 rfl (lv_at hl 7 rfl) ?_
                      refine va_get (D := D) (ci := 11) (v := .ref (tp)) (C := RX11) (T := TX11) (N := 14) hx hb hts hin11 hown hK hP 0 rfl rfl 3 (by decide) q_f_RX11_20_LimbSolverModel_top_I (fun _ h9 => h9) rfl dX11_divide_392 ?_
                      refine lv_iload hx hb dX11_divide_395 (lv_at hl 3 rfl) ?_
                      refine lv_iload hx hb dX11_divide_397 (lv_at hl 6 rfl) ?_
                      refine zr_iadd hx hb dX11_divide_399 ?_
                      refine lv_iconst (v := iZ 2) hx hb dX11_divide_400 rfl ?_
                      refine zr_isub hx hb dX11_divide_401 ?_
                      refine zr_iald hx hb hK hP 3 0 rfl rfl (t + k - 2) (by omega) (by omega) (by omega) dX11_divide_402 ?_
                      refine zr_i2l hx hb ⟨by omega, by omega⟩ dX11_divide_403 ?_
                      refine zr_ladd hx hb dX11_divide_404 ?_
                      refine zr_lcmp_le hx hb 433 ⟨by omega, by omega⟩ ⟨by omega, by omega⟩ dX11_divide_405 dX11_divide_406 (by decide) (fun h_405 => ?_) (fun h_405 => ?_)
                      · exact jt ((0 : Nat) : Int) H locs ls ⟨by omega, by omega⟩ hq (kx_K_close hK2 ⟨by omega, by omega⟩ hlf bN.1 (by omega) (by have bm := hx_mul_dg (x := ((0 : Nat) : Int)) (y := v (k - 2)) ⟨by omega, by omega⟩ bN; omega)) hP hD hS (lv_sub hl [1, 3, 4, 5, 6, 7, 8, 9, 10, 11] rfl)
                      · exfalso; omega
                | succ zt ihg =>
                  intro left ls hlf hl0 hq hl
                  have hzp : 0 ≤ ((zt + 1 : Nat) : Int) * v (k - 1) := Int.mul_nonneg (by omega) (by omega)
                  have hzl : ((zt + 1 : Nat) : Int) * 1 ≤ ((zt + 1 : Nat) : Int) * v (k - 1) := Int.mul_le_mul_of_nonneg_left (by omega) (by omega)
                  have hlp : left ≤ pr := by rw [hlf]; omega
                  refine lv_lload hx hb dX11_divide_354 (lv_at hl 1 rfl) ?_
                  refine zr_ldc2 hx hb 65536 (by decide) hown q_constantLong_RX11_47_65536 dX11_divide_356 ?_
                  refine zr_lcmp_ge hx hb 409 ⟨by omega, by omega⟩ ⟨by omega, by omega⟩ dX11_divide_359 dX11_divide_360 (by decide) (fun h_359 => ?_) (fun h_359 => ?_)
                  · refine lv_lload hx hb dX11_divide_409 (lv_at hl 1 rfl) ?_
                    refine lv_lconst (v := lZ 1) hx hb dX11_divide_411 rfl ?_
                    refine zr_lsub hx hb dX11_divide_412 ?_
                    refine zr_eql ((zt : Nat) : Int) (by omega) ?_
                    refine lv_lstore (lv' := [(11, .long (lZ (((zt : Nat) : Int)))), (13, .long (lZ (left))), (9, .long (lZ (pr))), (8, .int (iZ (((t : Nat) : Int)))), (7, .int (iZ (((sh : Nat) : Int)))), (6, .int (iZ (((m : Nat) : Int)))), (5, .int (iZ (((k : Nat) : Int)))), (0, .ref (mo)), (1, .int (iZ (((q9 : Nat) : Int)))), (2, .int (iZ (((r9 : Nat) : Int)))), (3, .int (iZ (((s9 : Nat) : Int)))), (4, .int (iZ (((t9 : Nat) : Int))))]) hx hb dX11_divide_413 hl (by decide) rfl (fun ls hl => ?_)
                    refine lv_lload hx hb dX11_divide_415 (lv_at hl 1 rfl) ?_
                    refine lv_aload_n hx hb dX11_divide_417 rfl (lv_at hl 7 rfl) ?_
                    refine va_get (D := D) (ci := 11) (v := .ref (bl)) (C := RX11) (T := TX11) (N := 14) hx hb hts hin11 hown hK hP 0 rfl rfl 4 (by decide) q_f_RX11_23_LimbSolverModel_below_I (fun _ h9 => h9) rfl dX11_divide_418 ?_
                    refine lv_iload hx hb dX11_divide_421 (lv_at hl 6 rfl) ?_
                    refine lv_iconst (v := iZ 1) hx hb dX11_divide_423 rfl ?_
                    refine zr_isub hx hb dX11_divide_424 ?_
                    refine zr_iald hx hb hK hP 4 0 rfl rfl (k - 1) (by omega) (by omega) (by omega) dX11_divide_425 ?_
                    refine zr_i2l hx hb ⟨by omega, by omega⟩ dX11_divide_426 ?_
                    refine zr_ladd hx hb dX11_divide_427 ?_
                    refine lv_lstore (lv' := [(13, .long (lZ ((left) + ((v) (k - 1))))), (11, .long (lZ (((zt : Nat) : Int)))), (9, .long (lZ (pr))), (8, .int (iZ (((t : Nat) : Int)))), (7, .int (iZ (((sh : Nat) : Int)))), (6, .int (iZ (((m : Nat) : Int)))), (5, .int (iZ (((k : Nat) : Int)))), (0, .ref (mo)), (1, .int (iZ (((q9 : Nat) : Int)))), (2, .int (iZ (((r9 : Nat) : Int)))), (3, .int (iZ (((s9 : Nat) : Int)))), (4, .int (iZ (((t9 : Nat) : Int))))]) hx hb dX11_divide_428 hl (by decide) rfl (fun ls hl => ?_)
                    refine lv_goto (tgt := 354) hx hb dX11_divide_430 (by decide) ?_
                    exact ihg (left + v (k - 1)) ls (by rw [hlf, show (((zt + 1 : Nat) : Nat) : Int) = (zt : Int) + 1 by omega, Int.add_mul]; omega) (by omega) (fun q q1 q2 => by first | (have q3 := kx_qB hV0 q2 hUV; omega) | (have q3 := kx_K_gt hK2 (by omega) hlf q2 (by omega); omega)) (lv_sub hl [0, 1, 2, 3, 4, 5, 6, 7, 8, 9, 10, 11] rfl)
                  · refine lv_lload hx hb dX11_divide_363 (lv_at hl 0 rfl) ?_
                    refine zr_ldc2 hx hb 65536 (by decide) hown q_constantLong_RX11_47_65536 dX11_divide_365 ?_
                    refine zr_lcmp_ge hx hb 433 ⟨by omega, by omega⟩ ⟨by omega, by omega⟩ dX11_divide_368 dX11_divide_369 (by decide) (fun h_368 => ?_) (fun h_368 => ?_)
                    · exact jt ((zt + 1 : Nat) : Int) H locs ls ⟨by omega, by omega⟩ hq (kx_K_close hK2 ⟨by omega, by omega⟩ hlf bN.1 (by omega) (by have bm := hx_mul_dg (x := ((zt + 1 : Nat) : Int)) (y := v (k - 2)) ⟨by omega, by omega⟩ bN; omega)) hP hD hS (lv_sub hl [1, 3, 4, 5, 6, 7, 8, 9, 10, 11] rfl)
                    · have bm := hx_mul_dg (x := ((zt + 1 : Nat) : Int)) (y := v (k - 2)) ⟨by omega, by omega⟩ bN
                      refine lv_lload hx hb dX11_divide_372 (lv_at hl 1 rfl) ?_
                      refine lv_aload_n hx hb dX11_divide_374 rfl (lv_at hl 7 rfl) ?_
                      refine va_get (D := D) (ci := 11) (v := .ref (bl)) (C := RX11) (T := TX11) (N := 14) hx hb hts hin11 hown hK hP 0 rfl rfl 4 (by decide) q_f_RX11_23_LimbSolverModel_below_I (fun _ h9 => h9) rfl dX11_divide_375 ?_
                      refine lv_iload hx hb dX11_divide_378 (lv_at hl 6 rfl) ?_
                      refine lv_iconst (v := iZ 2) hx hb dX11_divide_380 rfl ?_
                      refine zr_isub hx hb dX11_divide_381 ?_
                      refine zr_iald hx hb hK hP 4 0 rfl rfl (k - 2) (by omega) (by omega) (by omega) dX11_divide_382 ?_
                      refine zr_i2l hx hb ⟨by omega, by omega⟩ dX11_divide_383 ?_
                      refine zr_lmul hx hb dX11_divide_384 ?_
                      refine lv_lload hx hb dX11_divide_385 (lv_at hl 0 rfl) ?_
                      refine zr_ldc2 hx hb 65536 (by decide) hown q_constantLong_RX11_47_65536 dX11_divide_387 ?_
                      refine zr_lmul hx hb dX11_divide_390 ?_
                      refine lv_aload_n hx hb dX11_divide_391 rfl (lv_at hl 7 rfl) ?_
                      refine va_get (D := D) (ci := 11) (v := .ref (tp)) (C := RX11) (T := TX11) (N := 14) hx hb hts hin11 hown hK hP 0 rfl rfl 3 (by decide) q_f_RX11_20_LimbSolverModel_top_I (fun _ h9 => h9) rfl dX11_divide_392 ?_
                      refine lv_iload hx hb dX11_divide_395 (lv_at hl 3 rfl) ?_
                      refine lv_iload hx hb dX11_divide_397 (lv_at hl 6 rfl) ?_
                      refine zr_iadd hx hb dX11_divide_399 ?_
                      refine lv_iconst (v := iZ 2) hx hb dX11_divide_400 rfl ?_
                      refine zr_isub hx hb dX11_divide_401 ?_
                      refine zr_iald hx hb hK hP 3 0 rfl rfl (t + k - 2) (by omega) (by omega) (by omega) dX11_divide_402 ?_
                      refine zr_i2l hx hb ⟨by omega, by omega⟩ dX11_divide_403 ?_
                      refine zr_ladd hx hb dX11_divide_404 ?_
                      refine zr_lcmp_le hx hb 433 ⟨by omega, by omega⟩ ⟨by omega, by omega⟩ dX11_divide_405 dX11_divide_406 (by decide) (fun h_405 => ?_) (fun h_405 => ?_)
                      · exact jt ((zt + 1 : Nat) : Int) H locs ls ⟨by omega, by omega⟩ hq (kx_K_close hK2 ⟨by omega, by omega⟩ hlf bN.1 (by omega) (by have bm := hx_mul_dg (x := ((zt + 1 : Nat) : Int)) (y := v (k - 2)) ⟨by omega, by omega⟩ bN; omega)) hP hD hS (lv_sub hl [1, 3, 4, 5, 6, 7, 8, 9, 10, 11] rfl)
                      · refine lv_lload hx hb dX11_divide_409 (lv_at hl 1 rfl) ?_
                        refine lv_lconst (v := lZ 1) hx hb dX11_divide_411 rfl ?_
                        refine zr_lsub hx hb dX11_divide_412 ?_
                        refine zr_eql ((zt : Nat) : Int) (by omega) ?_
                        refine lv_lstore (lv' := [(11, .long (lZ (((zt : Nat) : Int)))), (13, .long (lZ (left))), (9, .long (lZ (pr))), (8, .int (iZ (((t : Nat) : Int)))), (7, .int (iZ (((sh : Nat) : Int)))), (6, .int (iZ (((m : Nat) : Int)))), (5, .int (iZ (((k : Nat) : Int)))), (0, .ref (mo)), (1, .int (iZ (((q9 : Nat) : Int)))), (2, .int (iZ (((r9 : Nat) : Int)))), (3, .int (iZ (((s9 : Nat) : Int)))), (4, .int (iZ (((t9 : Nat) : Int))))]) hx hb dX11_divide_413 hl (by decide) rfl (fun ls hl => ?_)
                        refine lv_lload hx hb dX11_divide_415 (lv_at hl 1 rfl) ?_
                        refine lv_aload_n hx hb dX11_divide_417 rfl (lv_at hl 7 rfl) ?_
                        refine va_get (D := D) (ci := 11) (v := .ref (bl)) (C := RX11) (T := TX11) (N := 14) hx hb hts hin11 hown hK hP 0 rfl rfl 4 (by decide) q_f_RX11_23_LimbSolverModel_below_I (fun _ h9 => h9) rfl dX11_divide_418 ?_
                        refine lv_iload hx hb dX11_divide_421 (lv_at hl 6 rfl) ?_
                        refine lv_iconst (v := iZ 1) hx hb dX11_divide_423 rfl ?_
                        refine zr_isub hx hb dX11_divide_424 ?_
                        refine zr_iald hx hb hK hP 4 0 rfl rfl (k - 1) (by omega) (by omega) (by omega) dX11_divide_425 ?_
                        refine zr_i2l hx hb ⟨by omega, by omega⟩ dX11_divide_426 ?_
                        refine zr_ladd hx hb dX11_divide_427 ?_
                        refine lv_lstore (lv' := [(13, .long (lZ ((left) + ((v) (k - 1))))), (11, .long (lZ (((zt : Nat) : Int)))), (9, .long (lZ (pr))), (8, .int (iZ (((t : Nat) : Int)))), (7, .int (iZ (((sh : Nat) : Int)))), (6, .int (iZ (((m : Nat) : Int)))), (5, .int (iZ (((k : Nat) : Int)))), (0, .ref (mo)), (1, .int (iZ (((q9 : Nat) : Int)))), (2, .int (iZ (((r9 : Nat) : Int)))), (3, .int (iZ (((s9 : Nat) : Int)))), (4, .int (iZ (((t9 : Nat) : Int))))]) hx hb dX11_divide_428 hl (by decide) rfl (fun ls hl => ?_)
                        refine lv_goto (tgt := 354) hx hb dX11_divide_430 (by decide) ?_
                        exact ihg (left + v (k - 1)) ls (by rw [hlf, show (((zt + 1 : Nat) : Nat) : Int) = (zt : Int) + 1 by omega, Int.add_mul]; omega) (by omega) (fun q q1 q2 => by first | (have q3 := kx_qB hV0 q2 hUV; omega) | (have q3 := kx_K_gt hK2 (by omega) hlf q2 (by omega); omega)) (lv_sub hl [0, 1, 2, 3, 4, 5, 6, 7, 8, 9, 10, 11] rfl)
              refine lv_lstore (lv' := [(9, .long (lZ (pr))), (8, .int (iZ (((t : Nat) : Int)))), (7, .int (iZ (((sh : Nat) : Int)))), (6, .int (iZ (((m : Nat) : Int)))), (5, .int (iZ (((k : Nat) : Int)))), (0, .ref (mo)), (1, .int (iZ (((q9 : Nat) : Int)))), (2, .int (iZ (((r9 : Nat) : Int)))), (3, .int (iZ (((s9 : Nat) : Int)))), (4, .int (iZ (((t9 : Nat) : Int))))]) hx hb dX11_divide_322 hl (by decide) rfl (fun ls hl => ?_)
              refine lv_lload hx hb dX11_divide_324 (lv_at hl 0 rfl) ?_
              refine lv_aload_n hx hb dX11_divide_326 rfl (lv_at hl 5 rfl) ?_
              refine va_get (D := D) (ci := 11) (v := .ref (bl)) (C := RX11) (T := TX11) (N := 14) hx hb hts hin11 hown hK hP 0 rfl rfl 4 (by decide) q_f_RX11_23_LimbSolverModel_below_I (fun _ h9 => h9) rfl dX11_divide_327 ?_
              refine lv_iload hx hb dX11_divide_330 (lv_at hl 4 rfl) ?_
              refine lv_iconst (v := iZ 1) hx hb dX11_divide_332 rfl ?_
              refine zr_isub hx hb dX11_divide_333 ?_
              refine zr_iald hx hb hK hP 4 0 rfl rfl (k - 1) (by omega) (by omega) (by omega) dX11_divide_334 ?_
              refine zr_i2l hx hb ⟨by omega, by omega⟩ dX11_divide_335 ?_
              refine zr_ldiv hx hb ⟨by omega, by omega⟩ ⟨by omega, by omega⟩ (by omega) (by omega) dX11_divide_336 ?_
              refine zr_eql ((z0 : Nat) : Int) hz0 ?_
              refine lv_lstore (lv' := [(11, .long (lZ (((z0 : Nat) : Int)))), (9, .long (lZ (pr))), (8, .int (iZ (((t : Nat) : Int)))), (7, .int (iZ (((sh : Nat) : Int)))), (6, .int (iZ (((m : Nat) : Int)))), (5, .int (iZ (((k : Nat) : Int)))), (0, .ref (mo)), (1, .int (iZ (((q9 : Nat) : Int)))), (2, .int (iZ (((r9 : Nat) : Int)))), (3, .int (iZ (((s9 : Nat) : Int)))), (4, .int (iZ (((t9 : Nat) : Int))))]) hx hb dX11_divide_337 hl (by decide) rfl (fun ls hl => ?_)
              refine lv_lload hx hb dX11_divide_339 (lv_at hl 1 rfl) ?_
              refine lv_aload_n hx hb dX11_divide_341 rfl (lv_at hl 6 rfl) ?_
              refine va_get (D := D) (ci := 11) (v := .ref (bl)) (C := RX11) (T := TX11) (N := 14) hx hb hts hin11 hown hK hP 0 rfl rfl 4 (by decide) q_f_RX11_23_LimbSolverModel_below_I (fun _ h9 => h9) rfl dX11_divide_342 ?_
              refine lv_iload hx hb dX11_divide_345 (lv_at hl 5 rfl) ?_
              refine lv_iconst (v := iZ 1) hx hb dX11_divide_347 rfl ?_
              refine zr_isub hx hb dX11_divide_348 ?_
              refine zr_iald hx hb hK hP 4 0 rfl rfl (k - 1) (by omega) (by omega) (by omega) dX11_divide_349 ?_
              refine zr_i2l hx hb ⟨by omega, by omega⟩ dX11_divide_350 ?_
              refine zr_lrem hx hb ⟨by omega, by omega⟩ ⟨by omega, by omega⟩ (by omega) (by omega) dX11_divide_351 ?_
              refine lv_lstore (lv' := [(13, .long (lZ ((pr) % ((v) (k - 1))))), (11, .long (lZ (((z0 : Nat) : Int)))), (9, .long (lZ (pr))), (8, .int (iZ (((t : Nat) : Int)))), (7, .int (iZ (((sh : Nat) : Int)))), (6, .int (iZ (((m : Nat) : Int)))), (5, .int (iZ (((k : Nat) : Int)))), (0, .ref (mo)), (1, .int (iZ (((q9 : Nat) : Int)))), (2, .int (iZ (((r9 : Nat) : Int)))), (3, .int (iZ (((s9 : Nat) : Int)))), (4, .int (iZ (((t9 : Nat) : Int))))]) hx hb dX11_divide_352 hl (by decide) rfl (fun ls hl => ?_)
              have e9 : pr - (z0 : Int) * v (k - 1) = pr % v (k - 1) := by rw [← hz0, Int.emod_def, Int.mul_comm]
              have e8 := Int.emod_nonneg pr (show v (k - 1) ≠ 0 by omega)
              exact gl z0 _ ls e9.symm e8 (fun q q1 q2 => by rw [← hz0]; exact kx_K_q0 hK2 bN.1 bt3.2 (by omega) q1 q2) (lv_sub hl [0, 1, 2, 3, 4, 5, 6, 7, 8, 9, 10, 11] rfl)
        refine lv_iload hx hb dX11_divide_281 (lv_at hl 1 rfl) ?_
        refine lv_iload hx hb dX11_divide_283 (lv_at hl 2 rfl) ?_
        refine zr_isub hx hb dX11_divide_285 ?_
        refine zr_eqi (((m + 1 - k : Nat) : Int) - 1) (by omega) ?_
        refine lv_istore (lv' := [(8, .int (iZ (((m + 1 - k : Nat) : Int) - 1))), (7, .int (iZ (((sh : Nat) : Int)))), (6, .int (iZ (((m : Nat) : Int)))), (5, .int (iZ (((k : Nat) : Int)))), (0, .ref (mo)), (1, .int (iZ (((q9 : Nat) : Int)))), (2, .int (iZ (((r9 : Nat) : Int)))), (3, .int (iZ (((s9 : Nat) : Int)))), (4, .int (iZ (((t9 : Nat) : Int))))]) hx hb dX11_divide_286 hl (by decide) rfl (fun ls hl => ?_)
        exact lpM (m + 1 - k) u (fun j => F (mdA q9 + j)) F H locs ls (Nat.le_refl _) hu (md_off_refl F q9) (fun j => rfl) (fun j q1 q2 => absurd q1 (by omega)) (by rw [Nat.sub_self, hx_v0, Int.zero_mul, Int.zero_mul, Int.zero_add, show m + 1 - k + k = m + 1 by omega, huv]) hR0 hP hD hS (lv_sub hl [0, 1, 2, 3, 4, 5, 6, 7, 8] rfl)
      have lpB : ∀ (t : Nat) (u : Nat → Int) (v : Nat → Int) (H : Heap) (locs : List Loc) (ls : Array Slot), (t ≤ k) → (∀ j : Nat, t ≤ j → j < k → v j = md_sl (fun i => F (mdA t9 + i)) sh j) → (hx_dg u (m + 1)) → (hx_val u (m + 1) = v1 * bg_t sh) →  va_P D vwCl [(mo, mo_ fg le sg tp bl pr rs (n) (dn) (sv) (rk) (tn) (ms) (th)), (fg, aI cI (52200) (F)), (le, aI cI (190) (Ln)), (tp, aI cI (1300) (u)), (bl, aI cI (1300) (v))] H → va_D A [(mo, mo_ fg le sg tp bl pr rs (n) (dn) (sv) (rk) (tn) (ms) (th)), (fg, aI cI (52200) (F)), (le, aI cI (190) (Ln)), (tp, aI cI (1300) (u)), (bl, aI cI (1300) (v))] → va_S A s.heap H locs → lv_has ls 15 [(8, .int (iZ (((t : Nat) : Int) - 1))), (7, .int (iZ (((sh : Nat) : Int)))), (6, .int (iZ (((m : Nat) : Int)))), (5, .int (iZ (((k : Nat) : Int)))), (0, .ref (mo)), (1, .int (iZ (((q9 : Nat) : Int)))), (2, .int (iZ (((r9 : Nat) : Int)))), (3, .int (iZ (((s9 : Nat) : Int)))), (4, .int (iZ (((t9 : Nat) : Int))))] → W zp l ze (zRm 4 100) s zm args below meth zc H locs 0 0 Q (F0 zm 209 ls []) := by
        intro t
        induction t with
        | zero =>
          intro u v H locs ls htm0 hdn hu huv hP hD hS hl
          refine lv_iload hx hb dX11_divide_209 (lv_at hl 0 rfl) ?_
          refine zr_if_lt hx hb 281 ⟨by omega, by omega⟩ dX11_divide_211 (by decide) (fun h_211 => ?_) (fun h_211 => ?_)
          · have hh := md_dn (f := (fun i => F (mdA t9 + i))) hsh hk0 hvt.2.1 hx1 hx2 (fun j hj => hdn j (Nat.zero_le j) hj)
            exact m281 u v H locs ls hu huv hh.1 (by rw [hh.2.1, hvt.2.2.2]) hh.2.2 hP hD hS (lv_sub hl [1, 2, 3, 4, 5, 6, 7, 8] rfl)
          · exfalso; omega
        | succ t ih =>
          intro u v H locs ls htm0 hdn hu huv hP hD hS hl
          have b0 : 0 ≤ F (mdA t9 + t) ∧ F (mdA t9 + t) < 65536 := hvt.2.1 t (by omega)
          have hcb := md_c_b (f := (fun i => F (mdA t9 + i))) (k := t) hsh hvt.2.1 (by omega)
          have ju : ∀  (H : Heap) (locs : List Loc) (ls : Array Slot),  va_P D vwCl [(mo, mo_ fg le sg tp bl pr rs (n) (dn) (sv) (rk) (tn) (ms) (th)), (fg, aI cI (52200) (F)), (le, aI cI (190) (Ln)), (tp, aI cI (1300) (u)), (bl, aI cI (1300) (v))] H → va_D A [(mo, mo_ fg le sg tp bl pr rs (n) (dn) (sv) (rk) (tn) (ms) (th)), (fg, aI cI (52200) (F)), (le, aI cI (190) (Ln)), (tp, aI cI (1300) (u)), (bl, aI cI (1300) (v))] → va_S A s.heap H locs → lv_has ls 15 [(9, .int (iZ (md_c (fun i => F (mdA t9 + i)) sh t))), (8, .int (iZ (((t : Nat) : Int)))), (7, .int (iZ (((sh : Nat) : Int)))), (6, .int (iZ (((m : Nat) : Int)))), (5, .int (iZ (((k : Nat) : Int)))), (0, .ref (mo)), (1, .int (iZ (((q9 : Nat) : Int)))), (2, .int (iZ (((r9 : Nat) : Int)))), (3, .int (iZ (((s9 : Nat) : Int)))), (4, .int (iZ (((t9 : Nat) : Int))))] → W zp l ze (zRm 4 100) s zm args below meth zc H locs 0 0 Q (F0 zm 246 ls []) := by
            intro  H locs ls  hP hD hS hl
            refine lv_aload_n hx hb dX11_divide_246 rfl (lv_at hl 5 rfl) ?_
            refine va_get (D := D) (ci := 11) (v := .ref (bl)) (C := RX11) (T := TX11) (N := 14) hx hb hts hin11 hown hK hP 0 rfl rfl 4 (by decide) q_f_RX11_23_LimbSolverModel_below_I (fun _ h9 => h9) rfl dX11_divide_247 ?_
            refine lv_iload hx hb dX11_divide_250 (lv_at hl 1 rfl) ?_
            refine lv_aload_n hx hb dX11_divide_252 rfl (lv_at hl 5 rfl) ?_
            refine va_get (D := D) (ci := 11) (v := .ref (fg)) (C := RX11) (T := TX11) (N := 14) hx hb hts hin11 hown hK hP 0 rfl rfl 0 (by decide) q_f_RX11_8_LimbSolverModel_figure_I (fun _ h9 => h9) rfl dX11_divide_253 ?_
            refine lv_iload hx hb dX11_divide_256 (lv_at hl 9 rfl) ?_
            refine zc_Si (As := [.int (iZ (((t9 : Nat) : Int)))]) (rest := [.ref (fg), .int (iZ (((t : Nat) : Int))), .ref (bl)]) (wr := [(mo, mo_ fg le sg tp bl pr rs (n) (dn) (sv) (rk) (tn) (ms) (th)), (fg, aI cI (52200) (F)), (le, aI cI (190) (Ln)), (tp, aI cI (1300) (u)), (bl, aI cI (1300) (v))]) ⟨hx, hb, hml, hown, hts⟩ (c_at l D cI cJ cE cF cR t9 (by omega)) (va_cwS 1 hts gX11_divide_X11_at rfl rfl rfl (by decide +kernel) ⟨Nat.le_of_ble_eq_true rfl, Nat.le_of_ble_eq_true rfl⟩) hN hK hP hD hS hA [] [0, 1, 2, 3, 4] rfl rfl (by decide) (by decide) (by decide) rfl hl.1 (Nat.le_of_ble_eq_true rfl) dX11_divide_258 ⟨by decide, by decide⟩ (fun z258 w1 H locs hz258 hp hP hD hS => ?_)
            obtain ⟨hw9, hx0⟩ := hp
            subst hw9
            subst hx0
            have hP := hP.sub (ws' := [(mo, mo_ fg le sg tp bl pr rs (n) (dn) (sv) (rk) (tn) (ms) (th)), (fg, aI cI (52200) (F)), (le, aI cI (190) (Ln)), (tp, aI cI (1300) (u)), (bl, aI cI (1300) (v))]) [0, 1, 2, 3, 4] rfl
            have hD := hD.sub (ws' := [(mo, mo_ fg le sg tp bl pr rs (n) (dn) (sv) (rk) (tn) (ms) (th)), (fg, aI cI (52200) (F)), (le, aI cI (190) (Ln)), (tp, aI cI (1300) (u)), (bl, aI cI (1300) (v))]) [0, 1, 2, 3, 4] (by decide) rfl
            refine lv_iload hx hb dX11_divide_261 (lv_at hl 1 rfl) ?_
            refine zr_iadd hx hb dX11_divide_263 ?_
            refine zr_iald hx hb hK hP 1 0 rfl rfl (mdA t9 + t) (by omega) (by omega) (by omega) dX11_divide_264 ?_
            refine lv_iload hx hb dX11_divide_265 (lv_at hl 2 rfl) ?_
            refine zr_ishl (k := sh) hx hb (by omega) dX11_divide_267 ?_
            refine lv_iload hx hb dX11_divide_268 (lv_at hl 0 rfl) ?_
            refine zr_ior hx hb (sh) (by omega) (b0.1) (hcb) dX11_divide_270 ?_
            refine zr_ldc hx hb 65535 (by decide) hown q_constant_RX11_53_65535 dX11_divide_271 ?_
            refine zr_iand hx hb 16 (by decide) (by decide) dX11_divide_273 ?_
            refine zr_eqi (((F (mdA t9 + t)) * 2 ^ (sh) + (md_c (fun i => F (mdA t9 + i)) sh t)) % 65536) (by rfl) ?_
            refine zr_iast hx hb hK hP hD hS 4 0 rfl rfl (t) (by omega) (by omega) (by omega) dX11_divide_274 (fun H locs hP hD hS => ?_)
            have hP : va_P D vwCl [(mo, mo_ fg le sg tp bl pr rs (n) (dn) (sv) (rk) (tn) (ms) (th)), (fg, aI cI (52200) (F)), (le, aI cI (190) (Ln)), (tp, aI cI (1300) (u)), (bl, aI cI (1300) (zu (v) (t) (((F (mdA t9 + t)) * 2 ^ (sh) + (md_c (fun i => F (mdA t9 + i)) sh t)) % 65536)))] H := hP
            have hD : va_D A [(mo, mo_ fg le sg tp bl pr rs (n) (dn) (sv) (rk) (tn) (ms) (th)), (fg, aI cI (52200) (F)), (le, aI cI (190) (Ln)), (tp, aI cI (1300) (u)), (bl, aI cI (1300) (zu (v) (t) (((F (mdA t9 + t)) * 2 ^ (sh) + (md_c (fun i => F (mdA t9 + i)) sh t)) % 65536)))] := hD
            refine lv_iinc (v := iZ (((t : Nat) : Int) - 1)) (lv' := [(8, .int (iZ (((t : Nat) : Int) - 1))), (9, .int (iZ (md_c (fun i => F (mdA t9 + i)) sh t))), (7, .int (iZ (((sh : Nat) : Int)))), (6, .int (iZ (((m : Nat) : Int)))), (5, .int (iZ (((k : Nat) : Int)))), (0, .ref (mo)), (1, .int (iZ (((q9 : Nat) : Int)))), (2, .int (iZ (((r9 : Nat) : Int)))), (3, .int (iZ (((s9 : Nat) : Int)))), (4, .int (iZ (((t9 : Nat) : Int))))]) hx hb dX11_divide_275 hl (k := 1) rfl (iZ_add _ _) (by decide) rfl (fun ls hl => ?_)
            refine lv_goto (tgt := 209) hx hb dX11_divide_278 (by decide) ?_
            exact ih u (zu v t (md_sl (fun i => F (mdA t9 + i)) sh t)) H locs ls (by omega) (fun j q1 q2 => by by_cases q : j = t; (subst q; rw [zu_s]); (rw [zu_n v _ q]; exact hdn j (by omega) q2)) hu huv hP hD hS (lv_sub hl [0, 2, 3, 4, 5, 6, 7, 8, 9] rfl)
          have ex : ((t + 1 : Nat) : Int) - 1 = ((t : Nat) : Int) := by omega
          rw [ex] at hl
          refine lv_iload hx hb dX11_divide_209 (lv_at hl 0 rfl) ?_
          refine zr_if_lt hx hb 281 ⟨by omega, by omega⟩ dX11_divide_211 (by decide) (fun h_211 => ?_) (fun h_211 => ?_)
          · exfalso; omega
          · refine lv_iload hx hb dX11_divide_214 (lv_at hl 0 rfl) ?_
            refine zr_if_le hx hb 243 ⟨by omega, by omega⟩ dX11_divide_216 (by decide) (fun h_216 => ?_) (fun h_216 => ?_)
            · refine lv_iconst (v := iZ 0) hx hb dX11_divide_243 rfl ?_
              refine lv_istore (lv' := [(9, .int (iZ (0))), (8, .int (iZ (((t : Nat) : Int)))), (7, .int (iZ (((sh : Nat) : Int)))), (6, .int (iZ (((m : Nat) : Int)))), (5, .int (iZ (((k : Nat) : Int)))), (0, .ref (mo)), (1, .int (iZ (((q9 : Nat) : Int)))), (2, .int (iZ (((r9 : Nat) : Int)))), (3, .int (iZ (((s9 : Nat) : Int)))), (4, .int (iZ (((t9 : Nat) : Int))))]) hx hb dX11_divide_244 hl (by decide) rfl (fun ls hl => ?_)
              have e9 : md_c (fun i => F (mdA t9 + i)) sh t = 0 := if_pos (by omega)
              rw [← e9] at hl
              exact ju H locs ls hP hD hS (lv_sub hl [0, 1, 2, 3, 4, 5, 6, 7, 8, 9] rfl)
            · have b1 : 0 ≤ F (mdA t9 + t - 1) ∧ F (mdA t9 + t - 1) < 65536 := by
                rw [show mdA t9 + t - 1 = mdA t9 + (t - 1) by omega]
                exact hvt.2.1 (t - 1) (by omega)
              refine lv_aload_n hx hb dX11_divide_219 rfl (lv_at hl 4 rfl) ?_
              refine va_get (D := D) (ci := 11) (v := .ref (fg)) (C := RX11) (T := TX11) (N := 14) hx hb hts hin11 hown hK hP 0 rfl rfl 0 (by decide) q_f_RX11_8_LimbSolverModel_figure_I (fun _ h9 => h9) rfl dX11_divide_220 ?_
              refine lv_iload hx hb dX11_divide_223 (lv_at hl 8 rfl) ?_
              refine zc_Si (As := [.int (iZ (((t9 : Nat) : Int)))]) (rest := [.ref (fg)]) (wr := [(mo, mo_ fg le sg tp bl pr rs (n) (dn) (sv) (rk) (tn) (ms) (th)), (fg, aI cI (52200) (F)), (le, aI cI (190) (Ln)), (tp, aI cI (1300) (u)), (bl, aI cI (1300) (v))]) ⟨hx, hb, hml, hown, hts⟩ (c_at l D cI cJ cE cF cR t9 (by omega)) (va_cwS 1 hts gX11_divide_X11_at rfl rfl rfl (by decide +kernel) ⟨Nat.le_of_ble_eq_true rfl, Nat.le_of_ble_eq_true rfl⟩) hN hK hP hD hS hA [] [0, 1, 2, 3, 4] rfl rfl (by decide) (by decide) (by decide) rfl hl.1 (Nat.le_of_ble_eq_true rfl) dX11_divide_225 ⟨by decide, by decide⟩ (fun z225 w1 H locs hz225 hp hP hD hS => ?_)
              obtain ⟨hw9, hx0⟩ := hp
              subst hw9
              subst hx0
              have hP := hP.sub (ws' := [(mo, mo_ fg le sg tp bl pr rs (n) (dn) (sv) (rk) (tn) (ms) (th)), (fg, aI cI (52200) (F)), (le, aI cI (190) (Ln)), (tp, aI cI (1300) (u)), (bl, aI cI (1300) (v))]) [0, 1, 2, 3, 4] rfl
              have hD := hD.sub (ws' := [(mo, mo_ fg le sg tp bl pr rs (n) (dn) (sv) (rk) (tn) (ms) (th)), (fg, aI cI (52200) (F)), (le, aI cI (190) (Ln)), (tp, aI cI (1300) (u)), (bl, aI cI (1300) (v))]) [0, 1, 2, 3, 4] (by decide) rfl
              refine lv_iload hx hb dX11_divide_228 (lv_at hl 0 rfl) ?_
              refine zr_iadd hx hb dX11_divide_230 ?_
              refine lv_iconst (v := iZ 1) hx hb dX11_divide_231 rfl ?_
              refine zr_isub hx hb dX11_divide_232 ?_
              refine zr_iald hx hb hK hP 1 0 rfl rfl (mdA t9 + t - 1) (by omega) (by omega) (by omega) dX11_divide_233 ?_
              refine lv_bipush (v := iZ 16) hx hb dX11_divide_234 (by decide) ?_
              refine lv_iload hx hb dX11_divide_236 (lv_at hl 1 rfl) ?_
              refine zr_isub hx hb dX11_divide_238 ?_
              refine zr_eqi (((16 - sh : Nat) : Int)) (by omega) ?_
              refine zr_ishr (k := 16 - sh) hx hb ⟨by omega, by omega⟩ (by omega) dX11_divide_239 ?_
              refine lv_goto (tgt := 244) hx hb dX11_divide_240 (by decide) ?_
              refine lv_istore (lv' := [(9, .int (iZ (((F) (mdA t9 + t - 1)) / 2 ^ (16 - sh)))), (8, .int (iZ (((t : Nat) : Int)))), (7, .int (iZ (((sh : Nat) : Int)))), (6, .int (iZ (((m : Nat) : Int)))), (5, .int (iZ (((k : Nat) : Int)))), (0, .ref (mo)), (1, .int (iZ (((q9 : Nat) : Int)))), (2, .int (iZ (((r9 : Nat) : Int)))), (3, .int (iZ (((s9 : Nat) : Int)))), (4, .int (iZ (((t9 : Nat) : Int))))]) hx hb dX11_divide_244 hl (by decide) rfl (fun ls hl => ?_)
              have e9 : md_c (fun i => F (mdA t9 + i)) sh t = F (mdA t9 + t - 1) / 2 ^ (16 - sh) := by
                unfold md_c
                rw [if_neg (by omega), show mdA t9 + t - 1 = mdA t9 + (t - 1) by omega]
                rfl
              rw [← e9] at hl
              exact ju H locs ls hP hD hS (lv_sub hl [0, 1, 2, 3, 4, 5, 6, 7, 8, 9] rfl)
      have lpT : ∀ (t : Nat) (u : Nat → Int) (v : Nat → Int) (H : Heap) (locs : List Loc) (ls : Array Slot), (t ≤ m) → (∀ j : Nat, t ≤ j → j < m → u j = md_sl (fun i => F (mdA s9 + i)) sh j) → (u m = md_c (fun i => F (mdA s9 + i)) sh m) →  va_P D vwCl [(mo, mo_ fg le sg tp bl pr rs (n) (dn) (sv) (rk) (tn) (ms) (th)), (fg, aI cI (52200) (F)), (le, aI cI (190) (Ln)), (tp, aI cI (1300) (u)), (bl, aI cI (1300) (v))] H → va_D A [(mo, mo_ fg le sg tp bl pr rs (n) (dn) (sv) (rk) (tn) (ms) (th)), (fg, aI cI (52200) (F)), (le, aI cI (190) (Ln)), (tp, aI cI (1300) (u)), (bl, aI cI (1300) (v))] → va_S A s.heap H locs → lv_has ls 15 [(8, .int (iZ (((t : Nat) : Int) - 1))), (7, .int (iZ (((sh : Nat) : Int)))), (6, .int (iZ (((m : Nat) : Int)))), (5, .int (iZ (((k : Nat) : Int)))), (0, .ref (mo)), (1, .int (iZ (((q9 : Nat) : Int)))), (2, .int (iZ (((r9 : Nat) : Int)))), (3, .int (iZ (((s9 : Nat) : Int)))), (4, .int (iZ (((t9 : Nat) : Int))))] → W zp l ze (zRm 4 100) s zm args below meth zc H locs 0 0 Q (F0 zm 133 ls []) := by
        intro t
        induction t with
        | zero =>
          intro u v H locs ls htm0 hdn htm hP hD hS hl
          refine lv_iload hx hb dX11_divide_133 (lv_at hl 0 rfl) ?_
          refine zr_if_lt hx hb 203 ⟨by omega, by omega⟩ dX11_divide_135 (by decide) (fun h_135 => ?_) (fun h_135 => ?_)
          · refine lv_iload hx hb dX11_divide_203 (lv_at hl 3 rfl) ?_
            refine lv_iconst (v := iZ 1) hx hb dX11_divide_205 rfl ?_
            refine zr_isub hx hb dX11_divide_206 ?_
            refine lv_istore (lv' := [(8, .int (iZ ((((k : Nat) : Int)) - (1)))), (7, .int (iZ (((sh : Nat) : Int)))), (6, .int (iZ (((m : Nat) : Int)))), (5, .int (iZ (((k : Nat) : Int)))), (0, .ref (mo)), (1, .int (iZ (((q9 : Nat) : Int)))), (2, .int (iZ (((r9 : Nat) : Int)))), (3, .int (iZ (((s9 : Nat) : Int)))), (4, .int (iZ (((t9 : Nat) : Int))))]) hx hb dX11_divide_207 hl (by decide) rfl (fun ls hl => ?_)
            have hh := md_up (f := (fun i => F (mdA s9 + i))) hsh hvs.2.1 (fun j hj => hdn j (Nat.zero_le j) hj) htm
            exact lpB k u v H locs ls (Nat.le_refl k) (fun j q1 q2 => absurd q1 (by omega)) hh.1 (by rw [hh.2, hvs.2.2.2]) hP hD hS (lv_sub hl [0, 1, 2, 3, 4, 5, 6, 7, 8] rfl)
          · exfalso; omega
        | succ t ih =>
          intro u v H locs ls htm0 hdn htm hP hD hS hl
          have b0 : 0 ≤ F (mdA s9 + t) ∧ F (mdA s9 + t) < 65536 := hvs.2.1 t (by omega)
          have hcb := md_c_b (f := (fun i => F (mdA s9 + i))) (k := t) hsh hvs.2.1 (by omega)
          have ju : ∀  (H : Heap) (locs : List Loc) (ls : Array Slot),  va_P D vwCl [(mo, mo_ fg le sg tp bl pr rs (n) (dn) (sv) (rk) (tn) (ms) (th)), (fg, aI cI (52200) (F)), (le, aI cI (190) (Ln)), (tp, aI cI (1300) (u)), (bl, aI cI (1300) (v))] H → va_D A [(mo, mo_ fg le sg tp bl pr rs (n) (dn) (sv) (rk) (tn) (ms) (th)), (fg, aI cI (52200) (F)), (le, aI cI (190) (Ln)), (tp, aI cI (1300) (u)), (bl, aI cI (1300) (v))] → va_S A s.heap H locs → lv_has ls 15 [(9, .int (iZ (md_c (fun i => F (mdA s9 + i)) sh t))), (8, .int (iZ (((t : Nat) : Int)))), (7, .int (iZ (((sh : Nat) : Int)))), (6, .int (iZ (((m : Nat) : Int)))), (5, .int (iZ (((k : Nat) : Int)))), (0, .ref (mo)), (1, .int (iZ (((q9 : Nat) : Int)))), (2, .int (iZ (((r9 : Nat) : Int)))), (3, .int (iZ (((s9 : Nat) : Int)))), (4, .int (iZ (((t9 : Nat) : Int))))] → W zp l ze (zRm 4 100) s zm args below meth zc H locs 0 0 Q (F0 zm 169 ls []) := by
            intro  H locs ls  hP hD hS hl
            refine lv_aload_n hx hb dX11_divide_169 rfl (lv_at hl 5 rfl) ?_
            refine va_get (D := D) (ci := 11) (v := .ref (tp)) (C := RX11) (T := TX11) (N := 14) hx hb hts hin11 hown hK hP 0 rfl rfl 3 (by decide) q_f_RX11_20_LimbSolverModel_top_I (fun _ h9 => h9) rfl dX11_divide_170 ?_
            refine lv_iload hx hb dX11_divide_173 (lv_at hl 1 rfl) ?_
            refine lv_aload_n hx hb dX11_divide_175 rfl (lv_at hl 5 rfl) ?_
            refine va_get (D := D) (ci := 11) (v := .ref (fg)) (C := RX11) (T := TX11) (N := 14) hx hb hts hin11 hown hK hP 0 rfl rfl 0 (by decide) q_f_RX11_8_LimbSolverModel_figure_I (fun _ h9 => h9) rfl dX11_divide_176 ?_
            refine lv_iload_n hx hb dX11_divide_179 rfl (lv_at hl 8 rfl) ?_
            refine zc_Si (As := [.int (iZ (((s9 : Nat) : Int)))]) (rest := [.ref (fg), .int (iZ (((t : Nat) : Int))), .ref (tp)]) (wr := [(mo, mo_ fg le sg tp bl pr rs (n) (dn) (sv) (rk) (tn) (ms) (th)), (fg, aI cI (52200) (F)), (le, aI cI (190) (Ln)), (tp, aI cI (1300) (u)), (bl, aI cI (1300) (v))]) ⟨hx, hb, hml, hown, hts⟩ (c_at l D cI cJ cE cF cR s9 (by omega)) (va_cwS 1 hts gX11_divide_X11_at rfl rfl rfl (by decide +kernel) ⟨Nat.le_of_ble_eq_true rfl, Nat.le_of_ble_eq_true rfl⟩) hN hK hP hD hS hA [] [0, 1, 2, 3, 4] rfl rfl (by decide) (by decide) (by decide) rfl hl.1 (Nat.le_of_ble_eq_true rfl) dX11_divide_180 ⟨by decide, by decide⟩ (fun z180 w1 H locs hz180 hp hP hD hS => ?_)
            obtain ⟨hw9, hx0⟩ := hp
            subst hw9
            subst hx0
            have hP := hP.sub (ws' := [(mo, mo_ fg le sg tp bl pr rs (n) (dn) (sv) (rk) (tn) (ms) (th)), (fg, aI cI (52200) (F)), (le, aI cI (190) (Ln)), (tp, aI cI (1300) (u)), (bl, aI cI (1300) (v))]) [0, 1, 2, 3, 4] rfl
            have hD := hD.sub (ws' := [(mo, mo_ fg le sg tp bl pr rs (n) (dn) (sv) (rk) (tn) (ms) (th)), (fg, aI cI (52200) (F)), (le, aI cI (190) (Ln)), (tp, aI cI (1300) (u)), (bl, aI cI (1300) (v))]) [0, 1, 2, 3, 4] (by decide) rfl
            refine lv_iload hx hb dX11_divide_183 (lv_at hl 1 rfl) ?_
            refine zr_iadd hx hb dX11_divide_185 ?_
            refine zr_iald hx hb hK hP 1 0 rfl rfl (mdA s9 + t) (by omega) (by omega) (by omega) dX11_divide_186 ?_
            refine lv_iload hx hb dX11_divide_187 (lv_at hl 2 rfl) ?_
            refine zr_ishl (k := sh) hx hb (by omega) dX11_divide_189 ?_
            refine lv_iload hx hb dX11_divide_190 (lv_at hl 0 rfl) ?_
            refine zr_ior hx hb (sh) (by omega) (b0.1) (hcb) dX11_divide_192 ?_
            refine zr_ldc hx hb 65535 (by decide) hown q_constant_RX11_53_65535 dX11_divide_193 ?_
            refine zr_iand hx hb 16 (by decide) (by decide) dX11_divide_195 ?_
            refine zr_eqi (((F (mdA s9 + t)) * 2 ^ (sh) + (md_c (fun i => F (mdA s9 + i)) sh t)) % 65536) (by rfl) ?_
            refine zr_iast hx hb hK hP hD hS 3 0 rfl rfl (t) (by omega) (by omega) (by omega) dX11_divide_196 (fun H locs hP hD hS => ?_)
            have hP : va_P D vwCl [(mo, mo_ fg le sg tp bl pr rs (n) (dn) (sv) (rk) (tn) (ms) (th)), (fg, aI cI (52200) (F)), (le, aI cI (190) (Ln)), (tp, aI cI (1300) (zu (u) (t) (((F (mdA s9 + t)) * 2 ^ (sh) + (md_c (fun i => F (mdA s9 + i)) sh t)) % 65536))), (bl, aI cI (1300) (v))] H := hP
            have hD : va_D A [(mo, mo_ fg le sg tp bl pr rs (n) (dn) (sv) (rk) (tn) (ms) (th)), (fg, aI cI (52200) (F)), (le, aI cI (190) (Ln)), (tp, aI cI (1300) (zu (u) (t) (((F (mdA s9 + t)) * 2 ^ (sh) + (md_c (fun i => F (mdA s9 + i)) sh t)) % 65536))), (bl, aI cI (1300) (v))] := hD
            refine lv_iinc (v := iZ (((t : Nat) : Int) - 1)) (lv' := [(8, .int (iZ (((t : Nat) : Int) - 1))), (9, .int (iZ (md_c (fun i => F (mdA s9 + i)) sh t))), (7, .int (iZ (((sh : Nat) : Int)))), (6, .int (iZ (((m : Nat) : Int)))), (5, .int (iZ (((k : Nat) : Int)))), (0, .ref (mo)), (1, .int (iZ (((q9 : Nat) : Int)))), (2, .int (iZ (((r9 : Nat) : Int)))), (3, .int (iZ (((s9 : Nat) : Int)))), (4, .int (iZ (((t9 : Nat) : Int))))]) hx hb dX11_divide_197 hl (k := 1) rfl (iZ_add _ _) (by decide) rfl (fun ls hl => ?_)
            refine lv_goto (tgt := 133) hx hb dX11_divide_200 (by decide) ?_
            exact ih (zu u t (md_sl (fun i => F (mdA s9 + i)) sh t)) v H locs ls (by omega) (fun j q1 q2 => by by_cases q : j = t; (subst q; rw [zu_s]); (rw [zu_n u _ q]; exact hdn j (by omega) q2)) (by rw [zu_n u _ (by omega)]; exact htm) hP hD hS (lv_sub hl [0, 2, 3, 4, 5, 6, 7, 8, 9] rfl)
          have ex : ((t + 1 : Nat) : Int) - 1 = ((t : Nat) : Int) := by omega
          rw [ex] at hl
          refine lv_iload hx hb dX11_divide_133 (lv_at hl 0 rfl) ?_
          refine zr_if_lt hx hb 203 ⟨by omega, by omega⟩ dX11_divide_135 (by decide) (fun h_135 => ?_) (fun h_135 => ?_)
          · exfalso; omega
          · refine lv_iload hx hb dX11_divide_138 (lv_at hl 0 rfl) ?_
            refine zr_if_le hx hb 166 ⟨by omega, by omega⟩ dX11_divide_140 (by decide) (fun h_140 => ?_) (fun h_140 => ?_)
            · refine lv_iconst (v := iZ 0) hx hb dX11_divide_166 rfl ?_
              refine lv_istore (lv' := [(9, .int (iZ (0))), (8, .int (iZ (((t : Nat) : Int)))), (7, .int (iZ (((sh : Nat) : Int)))), (6, .int (iZ (((m : Nat) : Int)))), (5, .int (iZ (((k : Nat) : Int)))), (0, .ref (mo)), (1, .int (iZ (((q9 : Nat) : Int)))), (2, .int (iZ (((r9 : Nat) : Int)))), (3, .int (iZ (((s9 : Nat) : Int)))), (4, .int (iZ (((t9 : Nat) : Int))))]) hx hb dX11_divide_167 hl (by decide) rfl (fun ls hl => ?_)
              have e9 : md_c (fun i => F (mdA s9 + i)) sh t = 0 := if_pos (by omega)
              rw [← e9] at hl
              exact ju H locs ls hP hD hS (lv_sub hl [0, 1, 2, 3, 4, 5, 6, 7, 8, 9] rfl)
            · have b1 : 0 ≤ F (mdA s9 + t - 1) ∧ F (mdA s9 + t - 1) < 65536 := by
                rw [show mdA s9 + t - 1 = mdA s9 + (t - 1) by omega]
                exact hvs.2.1 (t - 1) (by omega)
              refine lv_aload_n hx hb dX11_divide_143 rfl (lv_at hl 4 rfl) ?_
              refine va_get (D := D) (ci := 11) (v := .ref (fg)) (C := RX11) (T := TX11) (N := 14) hx hb hts hin11 hown hK hP 0 rfl rfl 0 (by decide) q_f_RX11_8_LimbSolverModel_figure_I (fun _ h9 => h9) rfl dX11_divide_144 ?_
              refine lv_iload_n hx hb dX11_divide_147 rfl (lv_at hl 7 rfl) ?_
              refine zc_Si (As := [.int (iZ (((s9 : Nat) : Int)))]) (rest := [.ref (fg)]) (wr := [(mo, mo_ fg le sg tp bl pr rs (n) (dn) (sv) (rk) (tn) (ms) (th)), (fg, aI cI (52200) (F)), (le, aI cI (190) (Ln)), (tp, aI cI (1300) (u)), (bl, aI cI (1300) (v))]) ⟨hx, hb, hml, hown, hts⟩ (c_at l D cI cJ cE cF cR s9 (by omega)) (va_cwS 1 hts gX11_divide_X11_at rfl rfl rfl (by decide +kernel) ⟨Nat.le_of_ble_eq_true rfl, Nat.le_of_ble_eq_true rfl⟩) hN hK hP hD hS hA [] [0, 1, 2, 3, 4] rfl rfl (by decide) (by decide) (by decide) rfl hl.1 (Nat.le_of_ble_eq_true rfl) dX11_divide_148 ⟨by decide, by decide⟩ (fun z148 w1 H locs hz148 hp hP hD hS => ?_)
              obtain ⟨hw9, hx0⟩ := hp
              subst hw9
              subst hx0
              have hP := hP.sub (ws' := [(mo, mo_ fg le sg tp bl pr rs (n) (dn) (sv) (rk) (tn) (ms) (th)), (fg, aI cI (52200) (F)), (le, aI cI (190) (Ln)), (tp, aI cI (1300) (u)), (bl, aI cI (1300) (v))]) [0, 1, 2, 3, 4] rfl
              have hD := hD.sub (ws' := [(mo, mo_ fg le sg tp bl pr rs (n) (dn) (sv) (rk) (tn) (ms) (th)), (fg, aI cI (52200) (F)), (le, aI cI (190) (Ln)), (tp, aI cI (1300) (u)), (bl, aI cI (1300) (v))]) [0, 1, 2, 3, 4] (by decide) rfl
              refine lv_iload hx hb dX11_divide_151 (lv_at hl 0 rfl) ?_
              refine zr_iadd hx hb dX11_divide_153 ?_
              refine lv_iconst (v := iZ 1) hx hb dX11_divide_154 rfl ?_
              refine zr_isub hx hb dX11_divide_155 ?_
              refine zr_iald hx hb hK hP 1 0 rfl rfl (mdA s9 + t - 1) (by omega) (by omega) (by omega) dX11_divide_156 ?_
              refine lv_bipush (v := iZ 16) hx hb dX11_divide_157 (by decide) ?_
              refine lv_iload hx hb dX11_divide_159 (lv_at hl 1 rfl) ?_
              refine zr_isub hx hb dX11_divide_161 ?_
              refine zr_eqi (((16 - sh : Nat) : Int)) (by omega) ?_
              refine zr_ishr (k := 16 - sh) hx hb ⟨by omega, by omega⟩ (by omega) dX11_divide_162 ?_
              refine lv_goto (tgt := 167) hx hb dX11_divide_163 (by decide) ?_
              refine lv_istore (lv' := [(9, .int (iZ (((F) (mdA s9 + t - 1)) / 2 ^ (16 - sh)))), (8, .int (iZ (((t : Nat) : Int)))), (7, .int (iZ (((sh : Nat) : Int)))), (6, .int (iZ (((m : Nat) : Int)))), (5, .int (iZ (((k : Nat) : Int)))), (0, .ref (mo)), (1, .int (iZ (((q9 : Nat) : Int)))), (2, .int (iZ (((r9 : Nat) : Int)))), (3, .int (iZ (((s9 : Nat) : Int)))), (4, .int (iZ (((t9 : Nat) : Int))))]) hx hb dX11_divide_167 hl (by decide) rfl (fun ls hl => ?_)
              have e9 : md_c (fun i => F (mdA s9 + i)) sh t = F (mdA s9 + t - 1) / 2 ^ (16 - sh) := by
                unfold md_c
                rw [if_neg (by omega), show mdA s9 + t - 1 = mdA s9 + (t - 1) by omega]
                rfl
              rw [← e9] at hl
              exact ju H locs ls hP hD hS (lv_sub hl [0, 1, 2, 3, 4, 5, 6, 7, 8, 9] rfl)
      have b1 : 0 ≤ F (mdA s9 + m - 1) ∧ F (mdA s9 + m - 1) < 65536 := by
        rw [show mdA s9 + m - 1 = mdA s9 + (m - 1) by omega]
        exact hvs.2.1 (m - 1) (by omega)
      refine lv_aload_n hx hb dX11_divide_100 rfl (lv_at hl 3 rfl) ?_
      refine va_get (D := D) (ci := 11) (v := .ref (tp)) (C := RX11) (T := TX11) (N := 14) hx hb hts hin11 hown hK hP 0 rfl rfl 3 (by decide) q_f_RX11_20_LimbSolverModel_top_I (fun _ h9 => h9) rfl dX11_divide_101 ?_
      refine lv_iload hx hb dX11_divide_104 (lv_at hl 1 rfl) ?_
      refine lv_aload_n hx hb dX11_divide_106 rfl (lv_at hl 3 rfl) ?_
      refine va_get (D := D) (ci := 11) (v := .ref (fg)) (C := RX11) (T := TX11) (N := 14) hx hb hts hin11 hown hK hP 0 rfl rfl 0 (by decide) q_f_RX11_8_LimbSolverModel_figure_I (fun _ h9 => h9) rfl dX11_divide_107 ?_
      refine lv_iload_n hx hb dX11_divide_110 rfl (lv_at hl 6 rfl) ?_
      refine zc_Si (As := [.int (iZ (((s9 : Nat) : Int)))]) (rest := [.ref (fg), .int (iZ (((m : Nat) : Int))), .ref (tp)]) (wr := [(mo, mo_ fg le sg tp bl pr rs (n) (dn) (sv) (rk) (tn) (ms) (th)), (fg, aI cI (52200) (F)), (le, aI cI (190) (Ln)), (tp, aI cI (1300) (T0)), (bl, aI cI (1300) (B0))]) ⟨hx, hb, hml, hown, hts⟩ (c_at l D cI cJ cE cF cR s9 (by omega)) (va_cwS 1 hts gX11_divide_X11_at rfl rfl rfl (by decide +kernel) ⟨Nat.le_of_ble_eq_true rfl, Nat.le_of_ble_eq_true rfl⟩) hN hK hP hD hS hA [] [0, 1, 2, 3, 4] rfl rfl (by decide) (by decide) (by decide) rfl hl.1 (Nat.le_of_ble_eq_true rfl) dX11_divide_111 ⟨by decide, by decide⟩ (fun z111 w1 H locs hz111 hp hP hD hS => ?_)
      obtain ⟨hw9, hx0⟩ := hp
      subst hw9
      subst hx0
      have hP := hP.sub (ws' := [(mo, mo_ fg le sg tp bl pr rs (n) (dn) (sv) (rk) (tn) (ms) (th)), (fg, aI cI (52200) (F)), (le, aI cI (190) (Ln)), (tp, aI cI (1300) (T0)), (bl, aI cI (1300) (B0))]) [0, 1, 2, 3, 4] rfl
      have hD := hD.sub (ws' := [(mo, mo_ fg le sg tp bl pr rs (n) (dn) (sv) (rk) (tn) (ms) (th)), (fg, aI cI (52200) (F)), (le, aI cI (190) (Ln)), (tp, aI cI (1300) (T0)), (bl, aI cI (1300) (B0))]) [0, 1, 2, 3, 4] (by decide) rfl
      refine lv_iload hx hb dX11_divide_114 (lv_at hl 1 rfl) ?_
      refine zr_iadd hx hb dX11_divide_116 ?_
      refine lv_iconst (v := iZ 1) hx hb dX11_divide_117 rfl ?_
      refine zr_isub hx hb dX11_divide_118 ?_
      refine zr_iald hx hb hK hP 1 0 rfl rfl (mdA s9 + m - 1) (by omega) (by omega) (by omega) dX11_divide_119 ?_
      refine lv_bipush (v := iZ 16) hx hb dX11_divide_120 (by decide) ?_
      refine lv_iload hx hb dX11_divide_122 (lv_at hl 0 rfl) ?_
      refine zr_isub hx hb dX11_divide_124 ?_
      refine zr_eqi (((16 - sh : Nat) : Int)) (by omega) ?_
      refine zr_ishr (k := 16 - sh) hx hb ⟨by omega, by omega⟩ (by omega) dX11_divide_125 ?_
      refine zr_iast hx hb hK hP hD hS 3 0 rfl rfl (m) (by omega) (by omega) (by omega) dX11_divide_126 (fun H locs hP hD hS => ?_)
      have hP : va_P D vwCl [(mo, mo_ fg le sg tp bl pr rs (n) (dn) (sv) (rk) (tn) (ms) (th)), (fg, aI cI (52200) (F)), (le, aI cI (190) (Ln)), (tp, aI cI (1300) (zu (T0) (m) (((F) (mdA s9 + m - 1)) / 2 ^ (16 - sh)))), (bl, aI cI (1300) (B0))] H := hP
      have hD : va_D A [(mo, mo_ fg le sg tp bl pr rs (n) (dn) (sv) (rk) (tn) (ms) (th)), (fg, aI cI (52200) (F)), (le, aI cI (190) (Ln)), (tp, aI cI (1300) (zu (T0) (m) (((F) (mdA s9 + m - 1)) / 2 ^ (16 - sh)))), (bl, aI cI (1300) (B0))] := hD
      refine lv_iload hx hb dX11_divide_127 (lv_at hl 1 rfl) ?_
      refine lv_iconst (v := iZ 1) hx hb dX11_divide_129 rfl ?_
      refine zr_isub hx hb dX11_divide_130 ?_
      refine lv_istore (lv' := [(8, .int (iZ ((((m : Nat) : Int)) - (1)))), (7, .int (iZ (((sh : Nat) : Int)))), (6, .int (iZ (((m : Nat) : Int)))), (5, .int (iZ (((k : Nat) : Int)))), (0, .ref (mo)), (1, .int (iZ (((q9 : Nat) : Int)))), (2, .int (iZ (((r9 : Nat) : Int)))), (3, .int (iZ (((s9 : Nat) : Int)))), (4, .int (iZ (((t9 : Nat) : Int))))]) hx hb dX11_divide_131 hl (by decide) rfl (fun ls hl => ?_)
      exact lpT m _ B0 H locs ls (Nat.le_refl m) (fun j q1 q2 => absurd q1 (by omega)) (by rw [zu_s]; unfold md_c; rw [if_neg (by omega), show mdA s9 + m - 1 = mdA s9 + (m - 1) by omega]; rfl) hP hD hS (lv_sub hl [0, 1, 2, 3, 4, 5, 6, 7, 8] rfl)
    have lpS : ∀ (t : Nat) (sh : Nat) (H : Heap) (locs : List Loc) (ls : Array Slot), (sh + t = 15) → (F (mdA t9 + k - 1) * bg_t sh < 65536) →  va_P D vwCl [(mo, mo_ fg le sg tp bl pr rs (n) (dn) (sv) (rk) (tn) (ms) (th)), (fg, aI cI (52200) (F)), (le, aI cI (190) (Ln)), (tp, aI cI (1300) (T0)), (bl, aI cI (1300) (B0))] H → va_D A [(mo, mo_ fg le sg tp bl pr rs (n) (dn) (sv) (rk) (tn) (ms) (th)), (fg, aI cI (52200) (F)), (le, aI cI (190) (Ln)), (tp, aI cI (1300) (T0)), (bl, aI cI (1300) (B0))] → va_S A s.heap H locs → lv_has ls 15 [(7, .int (iZ (((sh : Nat) : Int)))), (6, .int (iZ (((m : Nat) : Int)))), (5, .int (iZ (((k : Nat) : Int)))), (0, .ref (mo)), (1, .int (iZ (((q9 : Nat) : Int)))), (2, .int (iZ (((r9 : Nat) : Int)))), (3, .int (iZ (((s9 : Nat) : Int)))), (4, .int (iZ (((t9 : Nat) : Int))))] → W zp l ze (zRm 4 100) s zm args below meth zc H locs 0 0 Q (F0 zm 70 ls []) := by
      intro t
      induction t with
      | zero =>
        intro sh H locs ls hst hsx hP hD hS hl
        have hs15 := md_sh_s bx1 hsx
        have hsx0 : 0 ≤ F (mdA t9 + k - 1) * bg_t sh := Int.mul_nonneg (by omega) (Int.le_of_lt (bg_t_pos sh))
        refine lv_aload_n hx hb dX11_divide_70 rfl (lv_at hl 3 rfl) ?_
        refine va_get (D := D) (ci := 11) (v := .ref (fg)) (C := RX11) (T := TX11) (N := 14) hx hb hts hin11 hown hK hP 0 rfl rfl 0 (by decide) q_f_RX11_8_LimbSolverModel_figure_I (fun _ h9 => h9) rfl dX11_divide_71 ?_
        refine lv_iload hx hb dX11_divide_74 (lv_at hl 7 rfl) ?_
        refine zc_Si (As := [.int (iZ (((t9 : Nat) : Int)))]) (rest := [.ref (fg)]) (wr := [(mo, mo_ fg le sg tp bl pr rs (n) (dn) (sv) (rk) (tn) (ms) (th)), (fg, aI cI (52200) (F)), (le, aI cI (190) (Ln)), (tp, aI cI (1300) (T0)), (bl, aI cI (1300) (B0))]) ⟨hx, hb, hml, hown, hts⟩ (c_at l D cI cJ cE cF cR t9 (by omega)) (va_cwS 1 hts gX11_divide_X11_at rfl rfl rfl (by decide +kernel) ⟨Nat.le_of_ble_eq_true rfl, Nat.le_of_ble_eq_true rfl⟩) hN hK hP hD hS hA [] [0, 1, 2, 3, 4] rfl rfl (by decide) (by decide) (by decide) rfl hl.1 (Nat.le_of_ble_eq_true rfl) dX11_divide_76 ⟨by decide, by decide⟩ (fun z76 w1 H locs hz76 hp hP hD hS => ?_)
        obtain ⟨hw9, hx0⟩ := hp
        subst hw9
        subst hx0
        have hP := hP.sub (ws' := [(mo, mo_ fg le sg tp bl pr rs (n) (dn) (sv) (rk) (tn) (ms) (th)), (fg, aI cI (52200) (F)), (le, aI cI (190) (Ln)), (tp, aI cI (1300) (T0)), (bl, aI cI (1300) (B0))]) [0, 1, 2, 3, 4] rfl
        have hD := hD.sub (ws' := [(mo, mo_ fg le sg tp bl pr rs (n) (dn) (sv) (rk) (tn) (ms) (th)), (fg, aI cI (52200) (F)), (le, aI cI (190) (Ln)), (tp, aI cI (1300) (T0)), (bl, aI cI (1300) (B0))]) [0, 1, 2, 3, 4] (by decide) rfl
        refine lv_iload hx hb dX11_divide_79 (lv_at hl 2 rfl) ?_
        refine zr_iadd hx hb dX11_divide_81 ?_
        refine lv_iconst (v := iZ 1) hx hb dX11_divide_82 rfl ?_
        refine zr_isub hx hb dX11_divide_83 ?_
        refine zr_iald hx hb hK hP 1 0 rfl rfl (mdA t9 + k - 1) (by omega) (by omega) (by omega) dX11_divide_84 ?_
        refine lv_iload hx hb dX11_divide_85 (lv_at hl 0 rfl) ?_
        refine zr_ishl (k := sh) hx hb (by omega) dX11_divide_87 ?_
        refine zr_eqi (F (mdA t9 + k - 1) * bg_t sh) rfl ?_
        refine zr_ldc hx hb 32768 (by decide) hown q_constant_RX11_75_32768 dX11_divide_88 ?_
        refine zr_iandb hx hb (⟨by omega, by omega⟩) dX11_divide_90 ?_
        refine zr_topi (fun yb hyb => ?_)
        have hyb2 : (yb = 32768 ∧ 32768 ≤ F (mdA t9 + k - 1) * bg_t sh) ∨ (yb = 0 ∧ F (mdA t9 + k - 1) * bg_t sh < 32768) := by rw [hyb]; split <;> omega
        refine zr_if_ne hx hb 100 ⟨by omega, by omega⟩ dX11_divide_91 (by decide) (fun h_91 => ?_) (fun h_91 => ?_)
        · exact m100 sh H locs ls hs15 (by rw [hxe]; omega) (by rw [hxe]; omega) hP hD hS (lv_sub hl [0, 1, 2, 3, 4, 5, 6, 7] rfl)
        · exfalso; have e15 : bg_t 15 = 32768 := (by decide); rw [show sh = 15 by omega, e15] at hyb2; omega
      | succ t ih =>
        intro sh H locs ls hst hsx hP hD hS hl
        have hs15 := md_sh_s bx1 hsx
        have hsx0 : 0 ≤ F (mdA t9 + k - 1) * bg_t sh := Int.mul_nonneg (by omega) (Int.le_of_lt (bg_t_pos sh))
        refine lv_aload_n hx hb dX11_divide_70 rfl (lv_at hl 3 rfl) ?_
        refine va_get (D := D) (ci := 11) (v := .ref (fg)) (C := RX11) (T := TX11) (N := 14) hx hb hts hin11 hown hK hP 0 rfl rfl 0 (by decide) q_f_RX11_8_LimbSolverModel_figure_I (fun _ h9 => h9) rfl dX11_divide_71 ?_
        refine lv_iload hx hb dX11_divide_74 (lv_at hl 7 rfl) ?_
        refine zc_Si (As := [.int (iZ (((t9 : Nat) : Int)))]) (rest := [.ref (fg)]) (wr := [(mo, mo_ fg le sg tp bl pr rs (n) (dn) (sv) (rk) (tn) (ms) (th)), (fg, aI cI (52200) (F)), (le, aI cI (190) (Ln)), (tp, aI cI (1300) (T0)), (bl, aI cI (1300) (B0))]) ⟨hx, hb, hml, hown, hts⟩ (c_at l D cI cJ cE cF cR t9 (by omega)) (va_cwS 1 hts gX11_divide_X11_at rfl rfl rfl (by decide +kernel) ⟨Nat.le_of_ble_eq_true rfl, Nat.le_of_ble_eq_true rfl⟩) hN hK hP hD hS hA [] [0, 1, 2, 3, 4] rfl rfl (by decide) (by decide) (by decide) rfl hl.1 (Nat.le_of_ble_eq_true rfl) dX11_divide_76 ⟨by decide, by decide⟩ (fun z76 w1 H locs hz76 hp hP hD hS => ?_)
        obtain ⟨hw9, hx0⟩ := hp
        subst hw9
        subst hx0
        have hP := hP.sub (ws' := [(mo, mo_ fg le sg tp bl pr rs (n) (dn) (sv) (rk) (tn) (ms) (th)), (fg, aI cI (52200) (F)), (le, aI cI (190) (Ln)), (tp, aI cI (1300) (T0)), (bl, aI cI (1300) (B0))]) [0, 1, 2, 3, 4] rfl
        have hD := hD.sub (ws' := [(mo, mo_ fg le sg tp bl pr rs (n) (dn) (sv) (rk) (tn) (ms) (th)), (fg, aI cI (52200) (F)), (le, aI cI (190) (Ln)), (tp, aI cI (1300) (T0)), (bl, aI cI (1300) (B0))]) [0, 1, 2, 3, 4] (by decide) rfl
        refine lv_iload hx hb dX11_divide_79 (lv_at hl 2 rfl) ?_
        refine zr_iadd hx hb dX11_divide_81 ?_
        refine lv_iconst (v := iZ 1) hx hb dX11_divide_82 rfl ?_
        refine zr_isub hx hb dX11_divide_83 ?_
        refine zr_iald hx hb hK hP 1 0 rfl rfl (mdA t9 + k - 1) (by omega) (by omega) (by omega) dX11_divide_84 ?_
        refine lv_iload hx hb dX11_divide_85 (lv_at hl 0 rfl) ?_
        refine zr_ishl (k := sh) hx hb (by omega) dX11_divide_87 ?_
        refine zr_eqi (F (mdA t9 + k - 1) * bg_t sh) rfl ?_
        refine zr_ldc hx hb 32768 (by decide) hown q_constant_RX11_75_32768 dX11_divide_88 ?_
        refine zr_iandb hx hb (⟨by omega, by omega⟩) dX11_divide_90 ?_
        refine zr_topi (fun yb hyb => ?_)
        have hyb2 : (yb = 32768 ∧ 32768 ≤ F (mdA t9 + k - 1) * bg_t sh) ∨ (yb = 0 ∧ F (mdA t9 + k - 1) * bg_t sh < 32768) := by rw [hyb]; split <;> omega
        refine zr_if_ne hx hb 100 ⟨by omega, by omega⟩ dX11_divide_91 (by decide) (fun h_91 => ?_) (fun h_91 => ?_)
        · exact m100 sh H locs ls hs15 (by rw [hxe]; omega) (by rw [hxe]; omega) hP hD hS (lv_sub hl [0, 1, 2, 3, 4, 5, 6, 7] rfl)
        · refine lv_iinc (v := iZ (((sh + 1 : Nat) : Int))) (lv' := [(7, .int (iZ (((sh + 1 : Nat) : Int)))), (6, .int (iZ (((m : Nat) : Int)))), (5, .int (iZ (((k : Nat) : Int)))), (0, .ref (mo)), (1, .int (iZ (((q9 : Nat) : Int)))), (2, .int (iZ (((r9 : Nat) : Int)))), (3, .int (iZ (((s9 : Nat) : Int)))), (4, .int (iZ (((t9 : Nat) : Int))))]) hx hb dX11_divide_94 hl (k := 0) rfl (by rw [show ((sh + 1 : Nat) : Int) = ((sh : Nat) : Int) + 1 by omega]; exact iZ_add _ _) (by decide) rfl (fun ls hl => ?_)
          refine lv_goto (tgt := 70) hx hb dX11_divide_97 (by decide) ?_
          exact ih (sh + 1) H locs ls (by omega) (by rw [bg_ts]; rw [show F (mdA t9 + k - 1) * (2 * bg_t sh) = 2 * (F (mdA t9 + k - 1) * bg_t sh) by rw [Int.mul_left_comm]]; omega) hP hD hS (lv_sub hl [0, 1, 2, 3, 4, 5, 6, 7] rfl)
    refine lv_aload_n hx hb dX11_divide_50 rfl (lv_at hl 0 rfl) ?_
    refine va_get (D := D) (ci := 11) (v := .ref (le)) (C := RX11) (T := TX11) (N := 14) hx hb hts hin11 hown hK hP 0 rfl rfl 1 (by decide) q_f_RX11_14_LimbSolverModel_length_I (fun _ h9 => h9) rfl dX11_divide_51 ?_
    refine lv_iload hx hb dX11_divide_54 (lv_at hl 4 rfl) ?_
    refine zr_iald hx hb hK hP 2 0 rfl rfl (t9) (by omega) (by omega) (by omega) dX11_divide_56 ?_
    refine zr_eqi ((k : Nat) : Int) hLt ?_
    refine lv_istore (lv' := [(5, .int (iZ (((k : Nat) : Int)))), (0, .ref (mo)), (1, .int (iZ (((q9 : Nat) : Int)))), (2, .int (iZ (((r9 : Nat) : Int)))), (3, .int (iZ (((s9 : Nat) : Int)))), (4, .int (iZ (((t9 : Nat) : Int))))]) hx hb dX11_divide_57 hl (by decide) rfl (fun ls hl => ?_)
    refine lv_aload_n hx hb dX11_divide_59 rfl (lv_at hl 1 rfl) ?_
    refine va_get (D := D) (ci := 11) (v := .ref (le)) (C := RX11) (T := TX11) (N := 14) hx hb hts hin11 hown hK hP 0 rfl rfl 1 (by decide) q_f_RX11_14_LimbSolverModel_length_I (fun _ h9 => h9) rfl dX11_divide_60 ?_
    refine lv_iload_n hx hb dX11_divide_63 rfl (lv_at hl 4 rfl) ?_
    refine zr_iald hx hb hK hP 2 0 rfl rfl (s9) (by omega) (by omega) (by omega) dX11_divide_64 ?_
    refine zr_eqi ((m : Nat) : Int) hLs ?_
    refine lv_istore (lv' := [(6, .int (iZ (((m : Nat) : Int)))), (5, .int (iZ (((k : Nat) : Int)))), (0, .ref (mo)), (1, .int (iZ (((q9 : Nat) : Int)))), (2, .int (iZ (((r9 : Nat) : Int)))), (3, .int (iZ (((s9 : Nat) : Int)))), (4, .int (iZ (((t9 : Nat) : Int))))]) hx hb dX11_divide_65 hl (by decide) rfl (fun ls hl => ?_)
    refine lv_iconst (v := iZ 0) hx hb dX11_divide_67 rfl ?_
    refine lv_istore (lv' := [(7, .int (iZ (0))), (6, .int (iZ (((m : Nat) : Int)))), (5, .int (iZ (((k : Nat) : Int)))), (0, .ref (mo)), (1, .int (iZ (((q9 : Nat) : Int)))), (2, .int (iZ (((r9 : Nat) : Int)))), (3, .int (iZ (((s9 : Nat) : Int)))), (4, .int (iZ (((t9 : Nat) : Int))))]) hx hb dX11_divide_68 hl (by decide) rfl (fun ls hl => ?_)
    exact lpS 15 0 H locs ls (by omega) (by rw [bg_t0]; omega) hP hD hS (lv_sub hl [0, 1, 2, 3, 4, 5, 6, 7] rfl)
  refine lv_aload_n hx hb dX11_divide_0 rfl (lv_at hl 0 rfl) ?_
  refine lv_iload_n hx hb dX11_divide_1 rfl (lv_at hl 3 rfl) ?_
  refine lv_iload hx hb dX11_divide_2 (lv_at hl 4 rfl) ?_
  refine zc_Vi (As := [.int (iZ (((s9 : Nat) : Int))), .int (iZ (((t9 : Nat) : Int)))]) (rest := []) (wr := [(tp, aI cI (1300) (T0)), (bl, aI cI (1300) (B0))]) ⟨hx, hb, hml, hown, hts⟩ (c_mcompare l D cI cJ cE cF cR mo fg le sg tp bl pr rs n dn sv rk tn ms th s9 t9 F Ln v1 v2 hs9 ht9 ⟨m, hLs, hvs⟩ ⟨k, hLt, hvt⟩) (cwV 2 hts gX11_divide_X11_compare rfl rfl rfl (by decide +kernel) ⟨Nat.le_of_ble_eq_true rfl, Nat.le_of_ble_eq_true rfl⟩) hN hK hP hD hS hA [0, 1, 2] [3, 4] rfl rfl (by decide) (by decide) (by decide) (q0 := 0) (ci := 11) rfl rfl rfl rfl hl.1 (Nat.le_of_ble_eq_true rfl) dX11_divide_4 ⟨by decide, by decide⟩ (fun rc w1 H locs hz4 hp hP hD hS => ?_)
  obtain ⟨hw9, hcm⟩ := hp
  subst hw9
  have hP := hP.sub (ws' := [(mo, mo_ fg le sg tp bl pr rs (n) (dn) (sv) (rk) (tn) (ms) (th)), (fg, aI cI (52200) (F)), (le, aI cI (190) (Ln)), (tp, aI cI (1300) (T0)), (bl, aI cI (1300) (B0))]) [2, 3, 4, 0, 1] rfl
  have hD := hD.sub (ws' := [(mo, mo_ fg le sg tp bl pr rs (n) (dn) (sv) (rk) (tn) (ms) (th)), (fg, aI cI (52200) (F)), (le, aI cI (190) (Ln)), (tp, aI cI (1300) (T0)), (bl, aI cI (1300) (B0))]) [2, 3, 4, 0, 1] (by decide) rfl
  refine zr_if_ge hx hb 29 ⟨by omega, by omega⟩ dX11_divide_7 (by decide) (fun h_7 => ?_) (fun h_7 => ?_)
  · refine lv_aload_n hx hb dX11_divide_29 rfl (lv_at hl 0 rfl) ?_
    refine va_get (D := D) (ci := 11) (v := .ref (le)) (C := RX11) (T := TX11) (N := 14) hx hb hts hin11 hown hK hP 0 rfl rfl 1 (by decide) q_f_RX11_14_LimbSolverModel_length_I (fun _ h9 => h9) rfl dX11_divide_30 ?_
    refine lv_iload hx hb dX11_divide_33 (lv_at hl 4 rfl) ?_
    refine zr_iald hx hb hK hP 2 0 rfl rfl (t9) (by omega) (by omega) (by omega) dX11_divide_35 ?_
    refine zr_eqi ((k : Nat) : Int) hLt ?_
    refine lv_iconst (v := iZ 1) hx hb dX11_divide_36 rfl ?_
    refine zr_icmp_ne hx hb 50 ⟨by omega, by omega⟩ ⟨by omega, by omega⟩ dX11_divide_37 (by decide) (fun h_37 => ?_) (fun h_37 => ?_)
    · exact m50 H locs ls (by omega) (by omega) hP hD hS (lv_sub hl [0, 1, 2, 3, 4] rfl)
    · refine lv_aload_n hx hb dX11_divide_40 rfl (lv_at hl 0 rfl) ?_
      refine lv_iload_n hx hb dX11_divide_41 rfl (lv_at hl 1 rfl) ?_
      refine lv_iload_n hx hb dX11_divide_42 rfl (lv_at hl 2 rfl) ?_
      refine lv_iload_n hx hb dX11_divide_43 rfl (lv_at hl 3 rfl) ?_
      refine lv_iload hx hb dX11_divide_44 (lv_at hl 4 rfl) ?_
      refine zc_Vv (As := [.int (iZ (((q9 : Nat) : Int))), .int (iZ (((r9 : Nat) : Int))), .int (iZ (((s9 : Nat) : Int))), .int (iZ (((t9 : Nat) : Int)))]) (rest := []) (wr := [(bl, aI cI (1300) (B0))]) ⟨hx, hb, hml, hown, hts⟩ (c_mshortDivide l D cI cJ cE cF cR mo fg le sg tp bl pr rs n dn sv rk tn ms th q9 r9 s9 t9 a9 F Ln T0 v1 v2 hq9 hr9 hs9 ht9 hqr ⟨m, hLs, hvs⟩ ⟨k, hLt, hvt⟩ hb1 hfit (by rw [hLt]; omega) hd0) (cwV 4 hts gX11_divide_X11_shortDivide rfl rfl rfl (by decide +kernel) ⟨Nat.le_of_ble_eq_true rfl, Nat.le_of_ble_eq_true rfl⟩) hN hK hP hD hS hA [0, 1, 2, 3] [4] rfl rfl (by decide) (by decide) (by decide) (q0 := 0) (ci := 11) rfl rfl rfl rfl hl.1 (Nat.le_of_ble_eq_true rfl) dX11_divide_46 ⟨by decide, by decide⟩ (fun w1 H locs hp hP hD hS => ?_)
      obtain ⟨G, L1, T1, hw9, hG⟩ := hp
      subst hw9
      have hP := hP.sub (ws' := [(mo, mo_ fg le sg tp bl pr rs (n) (dn) (sv) (rk) (tn) (ms) (th)), (fg, aI cI (52200) (G)), (le, aI cI (190) (L1)), (tp, aI cI (1300) (T1)), (bl, aI cI (1300) (B0))]) [1, 2, 3, 4, 0] rfl
      have hD := hD.sub (ws' := [(mo, mo_ fg le sg tp bl pr rs (n) (dn) (sv) (rk) (tn) (ms) (th)), (fg, aI cI (52200) (G)), (le, aI cI (190) (L1)), (tp, aI cI (1300) (T1)), (bl, aI cI (1300) (B0))]) [1, 2, 3, 4, 0] (by decide) rfl
      exact zr_vret hQ hx hb hr hlk dX11_divide_49 hK hP hD hS (by omega) (by omega) (⟨G, L1, T1, B0, rfl, hG⟩)
  · refine lv_iload_n hx hb dX11_divide_10 rfl (lv_at hl 2 rfl) ?_
    refine lv_iload_n hx hb dX11_divide_11 rfl (lv_at hl 3 rfl) ?_
    refine zr_icmp_eq hx hb 21 ⟨by omega, by omega⟩ ⟨by omega, by omega⟩ dX11_divide_12 (by decide) (fun h_12 => ?_) (fun h_12 => ?_)
    · exfalso; omega
    · refine lv_aload_n hx hb dX11_divide_15 rfl (lv_at hl 0 rfl) ?_
      refine lv_iload_n hx hb dX11_divide_16 rfl (lv_at hl 2 rfl) ?_
      refine lv_iload_n hx hb dX11_divide_17 rfl (lv_at hl 3 rfl) ?_
      refine zc_Vv (As := [.int (iZ (((r9 : Nat) : Int))), .int (iZ (((s9 : Nat) : Int)))]) (rest := []) (wr := [(tp, aI cI (1300) (T0)), (bl, aI cI (1300) (B0))]) ⟨hx, hb, hml, hown, hts⟩ (c_mcopy l D cI cJ cE cF cR mo fg le sg tp bl pr rs n dn sv rk tn ms th r9 s9 b9 F Ln v1 hr9 hs9 hrs ⟨m, hLs, hvs⟩ (by omega) hfit2) (cwV 2 hts gX11_divide_X11_copy rfl rfl rfl (by decide +kernel) ⟨Nat.le_of_ble_eq_true rfl, Nat.le_of_ble_eq_true rfl⟩) hN hK hP hD hS hA [0, 1, 2] [3, 4] rfl rfl (by decide) (by decide) (by decide) (q0 := 0) (ci := 11) rfl rfl rfl rfl hl.1 (Nat.le_of_ble_eq_true rfl) dX11_divide_18 ⟨by decide, by decide⟩ (fun w1 H locs hp hP hD hS => ?_)
      obtain ⟨G, L1, hw9, hG⟩ := hp
      subst hw9
      have hP := hP.sub (ws' := [(mo, mo_ fg le sg tp bl pr rs (n) (dn) (sv) (rk) (tn) (ms) (th)), (fg, aI cI (52200) (G)), (le, aI cI (190) (L1)), (tp, aI cI (1300) (T0)), (bl, aI cI (1300) (B0))]) [2, 3, 4, 0, 1] rfl
      have hD := hD.sub (ws' := [(mo, mo_ fg le sg tp bl pr rs (n) (dn) (sv) (rk) (tn) (ms) (th)), (fg, aI cI (52200) (G)), (le, aI cI (190) (L1)), (tp, aI cI (1300) (T0)), (bl, aI cI (1300) (B0))]) [2, 3, 4, 0, 1] (by decide) rfl
      refine lv_aload_n hx hb dX11_divide_21 rfl (lv_at hl 0 rfl) ?_
      refine va_get (D := D) (ci := 11) (v := .ref (le)) (C := RX11) (T := TX11) (N := 14) hx hb hts hin11 hown hK hP 0 rfl rfl 1 (by decide) q_f_RX11_14_LimbSolverModel_length_I (fun _ h9 => h9) rfl dX11_divide_22 ?_
      refine lv_iload_n hx hb dX11_divide_25 rfl (lv_at hl 1 rfl) ?_
      refine lv_iconst (v := iZ 0) hx hb dX11_divide_26 rfl ?_
      refine zr_iast hx hb hK hP hD hS 2 0 rfl rfl (q9) (by omega) (by omega) (by omega) dX11_divide_27 (fun H locs hP hD hS => ?_)
      have hP : va_P D vwCl [(mo, mo_ fg le sg tp bl pr rs (n) (dn) (sv) (rk) (tn) (ms) (th)), (fg, aI cI (52200) (G)), (le, aI cI (190) (zu (L1) (q9) (0))), (tp, aI cI (1300) (T0)), (bl, aI cI (1300) (B0))] H := hP
      have hD : va_D A [(mo, mo_ fg le sg tp bl pr rs (n) (dn) (sv) (rk) (tn) (ms) (th)), (fg, aI cI (52200) (G)), (le, aI cI (190) (zu (L1) (q9) (0))), (tp, aI cI (1300) (T0)), (bl, aI cI (1300) (B0))] := hD
      exact zr_vret hQ hx hb hr hlk dX11_divide_28 hK hP hD hS (by omega) (by omega) (⟨G, _, T0, B0, rfl, fun s h1 h2 h3 => (hG.1 s h1 h3).trans (md_off.e (md_off_refl G q9) h2), ⟨0, zu_s _ _ _, by rw [Int.ediv_eq_zero_of_lt (hx_ok_nn hvs) (by omega)]; exact ⟨Nat.zero_le _, fun i hi => absurd hi (Nat.not_lt_zero i), fun q => absurd q (Nat.lt_irrefl 0), rfl⟩⟩, by rw [Int.emod_eq_of_lt (hx_ok_nn hvs) (by omega)]; exact (md_off.e (md_off_refl G q9) (Ne.symm hqr)).n hG.2⟩)
