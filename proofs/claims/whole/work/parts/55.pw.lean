/-! A POOL: objects by numbers, ad their places, G what they hold -/
def pw (NP : Nat) (ad : Nat → Nat) (G : Nat → va_E) : va_W := (List.range NP).map (fun k => (ad k, G k))
theorem pw_get {NP k : Nat} {ad : Nat → Nat} {G : Nat → va_E} (h : k < NP) : (pw NP ad G)[k]? = some (ad k, G k) := by
  unfold pw
  rw [List.getElem?_map, List.getElem?_range h]
  rfl
theorem pw_at {NP k : Nat} {ad : Nat → Nat} {G : Nat → va_E} {x : va_E} (h : k < NP) (hx : G k = x) : (pw NP ad G)[k]? = some (ad k, x) := by rw [pw_get h, hx]
theorem pw_lt {NP k : Nat} {ad : Nat → Nat} {G : Nat → va_E} {q : Nat × va_E} (h : (pw NP ad G)[k]? = some q) : k < NP ∧ q = (ad k, G k) := by
  have hl : k < NP := by
    have := (List.getElem?_eq_some_iff.mp h).1
    unfold pw at this
    rw [List.length_map, List.length_range] at this
    exact this
  rw [pw_get hl] at h
  exact ⟨hl, (Option.some.inj h).symm⟩
theorem pw_P {D : va_G} {NP : Nat} {ad : Nat → Nat} {G : Nat → va_E} {H : Heap} (h : ∀ k : Nat, k < NP → va_at D vwCl (ad k, G k) H) : va_P D vwCl (pw NP ad G) H := fun k q hk => by
  obtain ⟨h1, rfl⟩ := pw_lt hk
  exact h k h1
theorem pw_D {A : Nat → Prop} {NP : Nat} {ad : Nat → Nat} {G G' : Nat → va_E} (h : va_D A (pw NP ad G)) : va_D A (pw NP ad G') := by
  refine ⟨fun i j x y hi hj hxy => ?_, fun k q hk => ?_⟩
  · obtain ⟨h1, rfl⟩ := pw_lt hi
    obtain ⟨h2, rfl⟩ := pw_lt hj
    exact h.1 i j _ _ (pw_get h1) (pw_get h2) hxy
  · obtain ⟨h1, rfl⟩ := pw_lt hk
    exact h.2 k (ad k, G k) (pw_get h1)
theorem pw_set (NP : Nat) (ad : Nat → Nat) (G : Nat → va_E) (k : Nat) (x : va_E) : (pw NP ad G).set k (ad k, x) = pw NP ad (zu G k x) := by
  apply List.ext_getElem?
  intro i
  rw [List.getElem?_set]
  by_cases hi : i < NP
  · by_cases q : k = i
    · subst q
      rw [if_pos rfl, if_pos (by unfold pw; rw [List.length_map, List.length_range]; exact hi), pw_get hi, zu_s]
    · rw [if_neg q, pw_get hi, pw_get hi, zu_n _ _ (fun w => q w.symm)]
  · have hn : ∀ F : Nat → va_E, (pw NP ad F)[i]? = none := fun F => by
      apply List.getElem?_eq_none
      unfold pw
      rw [List.length_map, List.length_range]; omega
    rw [hn (zu G k x)]
    by_cases q : k = i
    · rw [if_pos q, if_neg (by unfold pw; rw [List.length_map, List.length_range]; omega)]
    · rw [if_neg q, hn]
theorem pw_all (NP : Nat) (ad : Nat → Nat) (G : Nat → va_E) : (List.range NP).map (fun i => (pw NP ad G)[i]?) = (pw NP ad G).map some := by
  apply List.ext_getElem?
  intro i
  by_cases hi : i < NP
  · rw [List.getElem?_map, List.getElem?_range hi, List.getElem?_map, pw_get hi]
    show some ((pw NP ad G)[i]?) = some (some (ad i, G i))
    rw [pw_get hi]
  · rw [List.getElem?_eq_none (by rw [List.length_map, List.length_range]; omega), List.getElem?_eq_none (by unfold pw; rw [List.length_map, List.length_map, List.length_range]; omega)]
theorem va_nd_of : ∀ {l : List Nat}, l.Nodup → va_nd l = true
  | [], _ => rfl
  | a :: l, h => by
    rw [List.nodup_cons] at h
    show (decide (a ∉ l) && va_nd l) = true
    rw [va_nd_of h.2, decide_eq_true h.1]
    rfl
theorem pw_nd (NP : Nat) : va_nd (List.range NP) = true := va_nd_of List.nodup_range
theorem va_nd_app {a b : List Nat} (B : Nat) (ha : va_nd a = true) (hb : va_nd b = true) (h1 : ∀ x ∈ a, x < B) (h2 : ∀ x ∈ b, B ≤ x) : va_nd (a ++ b) = true := by
  induction a with
  | nil => exact hb
  | cons x a ih =>
    simp only [va_nd, Bool.and_eq_true, decide_eq_true_eq] at ha
    show (decide (x ∉ a ++ b) && va_nd (a ++ b)) = true
    rw [ih ha.2 (fun y hy => h1 y (List.mem_cons_of_mem x hy)), Bool.and_true]
    refine decide_eq_true (fun q => ?_)
    rcases List.mem_append.mp q with w | w
    · exact ha.1 w
    · have e1 := h1 x List.mem_cons_self
      have e2 := h2 x w
      omega
/-- what the cells of a list hold, as a function of the numbers -/
theorem pw_fun {ad : Nat → Nat} (G : Nat → va_E) : ∀ (ks : List Nat) (u : va_W), va_nd ks = true → u.map Prod.fst = ks.map ad → ∃ G' : Nat → va_E, u = ks.map (fun k => (ad k, G' k)) ∧ ∀ k : Nat, k ∉ ks → G' k = G k := by
  intro ks
  induction ks with
  | nil =>
    intro u _ h
    refine ⟨G, ?_, fun _ _ => rfl⟩
    cases u with
    | nil => rfl
    | cons a u => simp at h
  | cons x ks ih =>
    intro u hn h
    simp only [va_nd, Bool.and_eq_true, decide_eq_true_eq] at hn
    cases u with
    | nil => simp at h
    | cons a u =>
      rw [List.map_cons, List.map_cons] at h
      obtain ⟨h1, h2⟩ := List.cons.inj h
      obtain ⟨G', e1, e2⟩ := ih u hn.2 h2
      refine ⟨zu G' x a.2, ?_, fun k hk => ?_⟩
      · rw [List.map_cons, zu_s, ← h1]
        congr 1
        rw [e1]
        refine List.map_congr_left (fun k hk => ?_)
        rw [zu_n _ _ (fun q => hn.1 (by rw [← q]; exact hk))]
      · rw [zu_n _ _ (fun q => hk (by rw [q]; exact List.mem_cons_self))]
        exact e2 k (fun q => hk (List.mem_cons_of_mem x q))
section PWF
variable {l : Launch} {D : va_G} {tys : zTys} {y : MethodName} {ws : List Cond} {rm : Room} {mc ms : Nat} {as : List Value} {wc : va_W} {NP : Nat} {ad : Nat → Nat} {G : Nat → va_E}
theorem pw_pre {sz : Nat} {U : State} {a : Array Value} (ks : List Nat) (hks : ∀ k ∈ ks, k < NP) (hnd : va_nd ks = true) (hwc : wc = ks.map (fun k => (ad k, G k))) (h : zPr D tys as (pw NP ad G) sz a U) : zPr D tys as wc sz a U := by
  obtain ⟨h0, h1, hP, hK, hD, hN⟩ := h
  have hC : ks.map (fun i => (pw NP ad G)[i]?) = wc.map some := by
    rw [hwc, List.map_map]
    refine List.map_congr_left (fun k hk => ?_)
    rw [pw_get (hks k hk)]; rfl
  exact ⟨h0, h1, hP.sub ks (by rw [zc_fm hC]), hK, hD.sub ks hnd hC, hN⟩
theorem pw_A {sz : Nat} (ks : List Nat) (hks : ∀ k ∈ ks, k < NP) (hwc : wc = ks.map (fun k => (ad k, G k))) : ∀ q : Nat, va_A wc sz q → va_A (pw NP ad G) sz q := by
  intro q h
  rcases h with ⟨k, x, h⟩ | h
  · rw [hwc, List.getElem?_map] at h
    cases hi : ks[k]? with
    | none => rw [hi] at h; cases h
    | some i =>
      rw [hi] at h
      have e := Option.some.inj h
      have hm := hks i (List.mem_of_getElem? hi)
      have e1 : ad i = q := congrArg Prod.fst e
      exact Or.inl ⟨i, G i, by rw [pw_get hm, e1]⟩
  · exact Or.inr h
theorem pw_back {sz : Nat} {a : Array Value} {st t : State} {u : va_W} {G' : Nat → va_E} (ks : List Nat) (hks : ∀ k ∈ ks, k < NP) (hwc : wc = ks.map (fun k => (ad k, G k))) (hp : zPr D tys as (pw NP ad G) sz a st) (hB : zB D tys (va_A wc sz) u t) (hF : va_F (va_A wc sz) st t) (hu : u = ks.map (fun k => (ad k, G' k))) (ho : ∀ k : Nat, k ∉ ks → G' k = G k) : zB D tys (va_A (pw NP ad G) sz) (pw NP ad G') t ∧ va_F (va_A (pw NP ad G) sz) st t := by
  obtain ⟨h0, h1, hP, hK, hD, hN⟩ := hp
  obtain ⟨b1, b2, b3⟩ := hB
  have hA := pw_A (sz := sz) ks hks hwc
  refine ⟨⟨pw_P (fun k hk => ?_), b2, ?_⟩, hF.1, fun q q1 q2 => hF.2 q q1 (fun w => q2 (hA q w))⟩
  · by_cases w : k ∈ ks
    · obtain ⟨i, hi⟩ := List.getElem?_of_mem w
      exact b1 i _ (by rw [hu, List.getElem?_map, hi]; rfl)
    · have hat := hP k _ (pw_get hk)
      rw [ho k w]
      refine va_at.kept hat (hF.2 _ hat.lt (fun z => ?_))
      rcases z with ⟨i, x, z⟩ | z
      · rw [hwc, List.getElem?_map] at z
        cases hi : ks[i]? with
        | none => rw [hi] at z; cases z
        | some j =>
          rw [hi] at z
          have e := congrArg Prod.fst (Option.some.inj z)
          have hj := List.mem_of_getElem? hi
          have := hD.1 j k _ _ (pw_get (hks j hj)) (pw_get hk) e
          exact w (by rw [← this]; exact hj)
      · have := hat.lt
        rw [h1] at this
        have z' : sz ≤ ad k := z
        have : ad k < sz := this
        omega
  · refine ⟨fun i j x z hi hj hxy => ?_, fun k q hk => ?_⟩
    · obtain ⟨q1, rfl⟩ := pw_lt hi
      obtain ⟨q2, rfl⟩ := pw_lt hj
      exact hD.1 i j _ _ (pw_get q1) (pw_get q2) hxy
    · obtain ⟨q1, rfl⟩ := pw_lt hk
      exact va_A.in (q := (ad k, G k)) (pw_get q1)
theorem Cv.frame {post : va_W → Prop} (hM : Cv l D tys y ws rm mc ms as wc post) (ks : List Nat) (hks : ∀ k ∈ ks, k < NP) (hnd : va_nd ks = true) (hwc : wc = ks.map (fun k => (ad k, G k))) (hsh : ∀ u : va_W, post u → u.map Prod.fst = ks.map ad) : Cv l D tys y ws rm mc ms as (pw NP ad G) (fun w9 => ∃ G' : Nat → va_E, w9 = pw NP ad G' ∧ post (ks.map (fun k => (ad k, G' k))) ∧ ∀ k : Nat, k ∉ ks → G' k = G k) := by
  intro sz p e ha hc hk s m args below hf happ hP hK
  obtain ⟨n, o, h1, h2, h3, ⟨⟨u, r1, r2, r3⟩, hF⟩, L, h5, h6⟩ := hM sz p e ha hc hk s m args below hf happ (pw_pre ks hks hnd hwc hP) hK
  obtain ⟨G', g1, g2⟩ := pw_fun (ad := ad) G ks u hnd (hsh u r2)
  obtain ⟨k1, k2⟩ := pw_back ks hks hwc hP r3 hF g1 g2
  exact ⟨n, o, h1, h2, h3, ⟨⟨pw NP ad G', r1, ⟨G', rfl, by rw [← g1]; exact r2, g2⟩, k1⟩, k2⟩, L, h5, fun q hq => pw_A ks hks hwc _ (h6 q hq)⟩
theorem Ci.frame {post : Int → va_W → Prop} (hM : Ci l D tys y ws rm mc ms as wc post) (ks : List Nat) (hks : ∀ k ∈ ks, k < NP) (hnd : va_nd ks = true) (hwc : wc = ks.map (fun k => (ad k, G k))) (hsh : ∀ (r : Int) (u : va_W), post r u → u.map Prod.fst = ks.map ad) : Ci l D tys y ws rm mc ms as (pw NP ad G) (fun r w9 => ∃ G' : Nat → va_E, w9 = pw NP ad G' ∧ post r (ks.map (fun k => (ad k, G' k))) ∧ ∀ k : Nat, k ∉ ks → G' k = G k) := by
  intro sz p e ha hc hk s m args below hf happ hP hK
  obtain ⟨n, o, h1, h2, h3, ⟨⟨r, u, r1, ⟨z, z1, z2, r2⟩, r3⟩, hF⟩, L, h5, h6⟩ := hM sz p e ha hc hk s m args below hf happ (pw_pre ks hks hnd hwc hP) hK
  obtain ⟨G', g1, g2⟩ := pw_fun (ad := ad) G ks u hnd (hsh z u r2)
  obtain ⟨k1, k2⟩ := pw_back ks hks hwc hP r3 hF g1 g2
  exact ⟨n, o, h1, h2, h3, ⟨⟨r, pw NP ad G', r1, ⟨z, z1, z2, G', rfl, by rw [← g1]; exact r2, g2⟩, k1⟩, k2⟩, L, h5, fun q hq => pw_A ks hks hwc _ (h6 q hq)⟩
theorem Cl.frame {post : Int → va_W → Prop} (hM : Cl l D tys y ws rm mc ms as wc post) (ks : List Nat) (hks : ∀ k ∈ ks, k < NP) (hnd : va_nd ks = true) (hwc : wc = ks.map (fun k => (ad k, G k))) (hsh : ∀ (r : Int) (u : va_W), post r u → u.map Prod.fst = ks.map ad) : Cl l D tys y ws rm mc ms as (pw NP ad G) (fun r w9 => ∃ G' : Nat → va_E, w9 = pw NP ad G' ∧ post r (ks.map (fun k => (ad k, G' k))) ∧ ∀ k : Nat, k ∉ ks → G' k = G k) := by
  intro sz p e ha hc hk s m args below hf happ hP hK
  obtain ⟨n, o, h1, h2, h3, ⟨⟨r, u, r1, ⟨z, z1, z2, r2⟩, r3⟩, hF⟩, L, h5, h6⟩ := hM sz p e ha hc hk s m args below hf happ (pw_pre ks hks hnd hwc hP) hK
  obtain ⟨G', g1, g2⟩ := pw_fun (ad := ad) G ks u hnd (hsh z u r2)
  obtain ⟨k1, k2⟩ := pw_back ks hks hwc hP r3 hF g1 g2
  exact ⟨n, o, h1, h2, h3, ⟨⟨r, pw NP ad G', r1, ⟨z, z1, z2, G', rfl, by rw [← g1]; exact r2, g2⟩, k1⟩, k2⟩, L, h5, fun q hq => pw_A ks hks hwc _ (h6 q hq)⟩
theorem Cv.weak {w0 : va_W} {post post' : va_W → Prop} (hM : Cv l D tys y ws rm mc ms as w0 post) (h : ∀ u : va_W, post u → post' u) : Cv l D tys y ws rm mc ms as w0 post' := by
  intro sz p e ha hc hk s m args below hf happ hP hK
  obtain ⟨n, o, h1, h2, h3, ⟨⟨u, r1, r2, r3⟩, hF⟩, h5⟩ := hM sz p e ha hc hk s m args below hf happ hP hK
  exact ⟨n, o, h1, h2, h3, ⟨⟨u, r1, h u r2, r3⟩, hF⟩, h5⟩
theorem Ci.weak {w0 : va_W} {post post' : Int → va_W → Prop} (hM : Ci l D tys y ws rm mc ms as w0 post) (h : ∀ (r : Int) (u : va_W), post r u → post' r u) : Ci l D tys y ws rm mc ms as w0 post' := by
  intro sz p e ha hc hk s m args below hf happ hP hK
  obtain ⟨n, o, h1, h2, h3, ⟨⟨r, u, r1, ⟨z, z1, z2, r2⟩, r3⟩, hF⟩, h5⟩ := hM sz p e ha hc hk s m args below hf happ hP hK
  exact ⟨n, o, h1, h2, h3, ⟨⟨r, u, r1, ⟨z, z1, z2, h z u r2⟩, r3⟩, hF⟩, h5⟩
theorem Cl.weak {w0 : va_W} {post post' : Int → va_W → Prop} (hM : Cl l D tys y ws rm mc ms as w0 post) (h : ∀ (r : Int) (u : va_W), post r u → post' r u) : Cl l D tys y ws rm mc ms as w0 post' := by
  intro sz p e ha hc hk s m args below hf happ hP hK
  obtain ⟨n, o, h1, h2, h3, ⟨⟨r, u, r1, ⟨z, z1, z2, r2⟩, r3⟩, hF⟩, h5⟩ := hM sz p e ha hc hk s m args below hf happ hP hK
  exact ⟨n, o, h1, h2, h3, ⟨⟨r, u, r1, ⟨z, z1, z2, h z u r2⟩, r3⟩, hF⟩, h5⟩
end PWF
