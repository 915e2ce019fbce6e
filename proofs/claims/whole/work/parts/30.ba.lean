/-! MINORS BY ROWS, and elimination without fractions (after Bareiss) -/
def ba_iw (w : Nat → Int) : List Nat → (List Nat → Int) → Int
  | [], _ => 0
  | c :: cs, F => w c * F cs - ba_iw w cs (fun l => F (c :: l))
theorem ba_iw_c (w : Nat → Int) (c : Nat) (cs : List Nat) (F : List Nat → Int) : ba_iw w (c :: cs) F = w c * F cs - ba_iw w cs (fun l => F (c :: l)) := rfl
theorem ba_iw_lin (a b : Int) (u w : Nat → Int) : ∀ (cs : List Nat) (F : List Nat → Int), ba_iw (fun x => a * u x + b * w x) cs F = a * ba_iw u cs F + b * ba_iw w cs F := by
  intro cs
  induction cs with
  | nil => intro F; show (0 : Int) = a * 0 + b * 0; omega
  | cons c cs ih =>
    intro F
    rw [ba_iw_c, ba_iw_c, ba_iw_c, ih]
    grind
theorem ba_iw_F (a b : Int) (w : Nat → Int) : ∀ (cs : List Nat) (F G : List Nat → Int), ba_iw w cs (fun l => a * F l + b * G l) = a * ba_iw w cs F + b * ba_iw w cs G := by
  intro cs
  induction cs with
  | nil => intro F G; show (0 : Int) = a * 0 + b * 0; omega
  | cons c cs ih =>
    intro F G
    rw [ba_iw_c, ba_iw_c, ba_iw_c, ih]
    grind
theorem ba_iw_zero {w : Nat → Int} : ∀ {cs : List Nat} {F : List Nat → Int}, (∀ c ∈ cs, w c = 0) → ba_iw w cs F = 0 := by
  intro cs
  induction cs with
  | nil => intro F _; rfl
  | cons c cs ih =>
    intro F h
    rw [ba_iw_c, h c List.mem_cons_self, ih (fun x hx => h x (List.mem_cons_of_mem c hx))]
    omega
theorem ba_iw_F0 (w : Nat → Int) : ∀ (cs : List Nat), ba_iw w cs (fun _ => 0) = 0 := by
  intro cs
  induction cs with
  | nil => rfl
  | cons c cs ih => rw [ba_iw_c, ih]; omega
theorem ba_iw_anti (u w : Nat → Int) : ∀ (cs : List Nat) (F : List Nat → Int), ba_iw u cs (fun l => ba_iw w l F) = - ba_iw w cs (fun l => ba_iw u l F) := by
  intro cs
  induction cs with
  | nil => intro F; rfl
  | cons c cs ih =>
    intro F
    rw [ba_iw_c, ba_iw_c]
    have e1 : (fun l => ba_iw w (c :: l) F) = fun l => w c * F l + (-1) * ba_iw w l (fun x => F (c :: x)) := by
      funext l; rw [ba_iw_c]; omega
    have e2 : (fun l => ba_iw u (c :: l) F) = fun l => u c * F l + (-1) * ba_iw u l (fun x => F (c :: x)) := by
      funext l; rw [ba_iw_c]; omega
    rw [e1, e2, ba_iw_F, ba_iw_F, ih (fun x => F (c :: x))]
    grind
def ba_dt : List (Nat → Int) → List Nat → Int
  | [], _ => 1
  | w :: rows, cols => ba_iw w cols (fun l => ba_dt rows l)
theorem ba_dt_c (w : Nat → Int) (rows : List (Nat → Int)) (cols : List Nat) : ba_dt (w :: rows) cols = ba_iw w cols (fun l => ba_dt rows l) := rfl
theorem ba_dt_lin (a b : Int) (u w : Nat → Int) (rows : List (Nat → Int)) (cols : List Nat) : ba_dt ((fun x => a * u x + b * w x) :: rows) cols = a * ba_dt (u :: rows) cols + b * ba_dt (w :: rows) cols := ba_iw_lin a b u w cols _
theorem ba_dt_anti (u w : Nat → Int) (rows : List (Nat → Int)) (cols : List Nat) : ba_dt (u :: w :: rows) cols = - ba_dt (w :: u :: rows) cols := ba_iw_anti u w cols (fun l => ba_dt rows l)
theorem ba_dt_same {w : Nat → Int} : ∀ {rows : List (Nat → Int)} {cols : List Nat}, w ∈ rows → ba_dt (w :: rows) cols = 0 := by
  intro rows
  induction rows with
  | nil => intro cols h; exact absurd h List.not_mem_nil
  | cons u rows ih =>
    intro cols h
    rcases List.mem_cons.mp h with q | q
    · subst q
      have := ba_dt_anti w w rows cols
      omega
    · rw [ba_dt_anti, ba_dt_c]
      have e : (fun l => ba_dt (w :: rows) l) = fun _ => 0 := by funext l; exact ih q
      rw [e, ba_iw_F0]
      rfl
/-- z is a sum of multiples of rows -/
def ba_sp (rows : List (Nat → Int)) (z : Nat → Int) : Prop := ∀ (rows' : List (Nat → Int)) (cols : List Nat), (∀ r ∈ rows, r ∈ rows') → ba_dt (z :: rows') cols = 0
theorem ba_sp_0 (rows : List (Nat → Int)) : ba_sp rows (fun _ => 0) := fun rows' cols _ => ba_iw_zero (fun _ _ => rfl)
theorem ba_sp_row {rows : List (Nat → Int)} {r : Nat → Int} (h : r ∈ rows) : ba_sp rows r := fun _ _ hs => ba_dt_same (hs r h)
theorem ba_sp_lin {rows : List (Nat → Int)} {u w : Nat → Int} (a b : Int) (hu : ba_sp rows u) (hw : ba_sp rows w) : ba_sp rows (fun x => a * u x + b * w x) := fun rows' cols hs => by
  rw [ba_dt_lin, hu rows' cols hs, hw rows' cols hs]; omega
theorem ba_sp_more {rows : List (Nat → Int)} {y z : Nat → Int} (h : ba_sp rows z) : ba_sp (y :: rows) z := fun rows' cols hs => h rows' cols (fun r hr => hs r (List.mem_cons_of_mem y hr))
/-- the row w, cleared by the rows: at column j -/
def ba_st (rows : List (Nat → Int)) (cols : List Nat) (w : Nat → Int) (j : Nat) : Int := ba_dt (w :: rows) (j :: cols)
def ba_H (rows : List (Nat → Int)) (cols : List Nat) : Prop := ba_dt rows cols ≠ 0 ∧ (∀ (w : Nat → Int) (c : Nat), c ∈ cols → ba_st rows cols w c = 0) ∧ ∀ w : Nat → Int, ∃ (d : Int) (z : Nat → Int), d ≠ 0 ∧ ba_sp rows z ∧ ∀ x, d * ba_dt rows cols * w x = d * ba_st rows cols w x + z x
theorem ba_H0 : ba_H [] [] := by
  refine ⟨by decide, fun w c h => absurd h List.not_mem_nil, fun w => ⟨1, fun _ => 0, by decide, ba_sp_0 _, fun x => ?_⟩⟩
  show 1 * 1 * w x = 1 * (w x * 1 - 0) + 0
  omega
theorem ba_cancel {a b c : Int} (h : a ≠ 0) (e : a * b = a * c) : b = c := Int.eq_of_mul_eq_mul_left h e
theorem ba_iw_two {w : Nat → Int} {j c : Nat} {cs : List Nat} {F : List Nat → Int} (h : ∀ x ∈ cs, w x = 0) : ba_iw w (j :: c :: cs) F = w j * F (c :: cs) - w c * F (j :: cs) := by
  rw [ba_iw_c, ba_iw_c, ba_iw_zero h]
  omega
theorem ba_iw_one {w : Nat → Int} {j : Nat} {cs : List Nat} {F : List Nat → Int} (h : ∀ x ∈ cs, w x = 0) : ba_iw w (j :: cs) F = w j * F cs := by
  rw [ba_iw_c, ba_iw_zero h]
  omega
/-- two rows, cleared -/
theorem ba_two {rows : List (Nat → Int)} {cols : List Nat} (h : ba_H rows cols) (w y : Nat → Int) (j c : Nat) : ba_dt rows cols * ba_dt (w :: y :: rows) (j :: c :: cols) = ba_st rows cols w j * ba_st rows cols y c - ba_st rows cols w c * ba_st rows cols y j := by
  obtain ⟨h0, h1, h2⟩ := h
  obtain ⟨dw, zw, w0, w1, w2⟩ := h2 w
  obtain ⟨dy, zy, y0, y1, y2⟩ := h2 y
  have ew : (fun x => (dw * ba_dt rows cols) * w x + 0 * w x) = fun x => dw * ba_st rows cols w x + 1 * zw x := by funext x; rw [w2 x]; omega
  have ey : (fun x => (dy * ba_dt rows cols) * y x + 0 * y x) = fun x => dy * ba_st rows cols y x + 1 * zy x := by funext x; rw [y2 x]; omega
  have a1 : (dw * ba_dt rows cols) * ba_dt (w :: y :: rows) (j :: c :: cols) = dw * ba_dt (ba_st rows cols w :: y :: rows) (j :: c :: cols) := by
    have q1 := ba_dt_lin (dw * ba_dt rows cols) 0 w w (y :: rows) (j :: c :: cols)
    rw [ew] at q1
    have q2 := ba_dt_lin dw 1 (ba_st rows cols w) zw (y :: rows) (j :: c :: cols)
    have q3 := w1 (y :: rows) (j :: c :: cols) (fun r hr => List.mem_cons_of_mem y hr)
    have e9 : ba_dt ((fun x => dw * ba_st rows cols w x + 1 * zw x) :: y :: rows) (j :: c :: cols) = _ := q2
    rw [e9, q3] at q1
    omega
  have a2 : (dy * ba_dt rows cols) * ba_dt (y :: ba_st rows cols w :: rows) (j :: c :: cols) = dy * ba_dt (ba_st rows cols y :: ba_st rows cols w :: rows) (j :: c :: cols) := by
    have q1 := ba_dt_lin (dy * ba_dt rows cols) 0 y y (ba_st rows cols w :: rows) (j :: c :: cols)
    rw [ey] at q1
    have q2 := ba_dt_lin dy 1 (ba_st rows cols y) zy (ba_st rows cols w :: rows) (j :: c :: cols)
    have q3 := y1 (ba_st rows cols w :: rows) (j :: c :: cols) (fun r hr => List.mem_cons_of_mem _ hr)
    have e9 : ba_dt ((fun x => dy * ba_st rows cols y x + 1 * zy x) :: ba_st rows cols w :: rows) (j :: c :: cols) = _ := q2
    rw [e9, q3] at q1
    omega
  have a3 := ba_dt_anti (ba_st rows cols w) y rows (j :: c :: cols)
  have a4 := ba_dt_anti (ba_st rows cols y) (ba_st rows cols w) rows (j :: c :: cols)
  have a5 : ba_dt (ba_st rows cols w :: ba_st rows cols y :: rows) (j :: c :: cols) = ba_st rows cols w j * (ba_st rows cols y c * ba_dt rows cols) - ba_st rows cols w c * (ba_st rows cols y j * ba_dt rows cols) := by
    rw [ba_dt_c, ba_iw_two (fun x hx => h1 w x hx), ba_dt_c, ba_dt_c, ba_iw_one (fun x hx => h1 y x hx), ba_iw_one (fun x hx => h1 y x hx)]
  rw [a4, a5] at a2
  rw [a3] at a1
  refine ba_cancel (a := dw * dy * ba_dt rows cols) (Int.mul_ne_zero (Int.mul_ne_zero w0 y0) h0) ?_
  generalize ba_dt (w :: y :: rows) (j :: c :: cols) = T at *
  generalize ba_dt (y :: ba_st rows cols w :: rows) (j :: c :: cols) = T2 at *
  generalize ba_dt rows cols = lp at *
  grind
theorem ba_step {rows : List (Nat → Int)} {cols : List Nat} {y : Nat → Int} {c : Nat} (h : ba_H rows cols) (hc : ba_st rows cols y c ≠ 0) : ba_H (y :: rows) (c :: cols) := by
  have hS := fun w j => ba_two h w y j c
  obtain ⟨h0, h1, h2⟩ := h
  refine ⟨hc, ?_, ?_⟩
  · intro w x hx
    refine ba_cancel h0 ?_
    show ba_dt rows cols * ba_dt (w :: y :: rows) (x :: c :: cols) = _
    rw [hS w x, Int.mul_zero]
    rcases List.mem_cons.mp hx with q | q
    · rw [q]; grind
    · rw [h1 w x q, h1 y x q]; omega
  · intro w
    obtain ⟨dw, zw, w0, w1, w2⟩ := h2 w
    obtain ⟨dy, zy, y0, y1, y2⟩ := h2 y
    refine ⟨dy * dw * ba_dt rows cols, fun x => (dw * ba_st rows cols w c * (dy * ba_dt rows cols)) * y x + 1 * ((-(dw * ba_st rows cols w c)) * zy x + (dy * ba_st rows cols y c) * zw x), Int.mul_ne_zero (Int.mul_ne_zero y0 w0) h0, ba_sp_lin _ _ (ba_sp_row List.mem_cons_self) (ba_sp_lin _ _ (ba_sp_more y1) (ba_sp_more w1)), fun x => ?_⟩
    have e1 := w2 x
    have e2 := y2 x
    have e3 := hS w x
    show dy * dw * ba_dt rows cols * ba_st rows cols y c * w x = dy * dw * ba_dt rows cols * ba_dt (w :: y :: rows) (x :: c :: cols) + _
    generalize ba_dt (w :: y :: rows) (x :: c :: cols) = T at *
    generalize ba_dt rows cols = lp at *
    generalize ba_st rows cols w x = a1 at *
    generalize ba_st rows cols y x = a2 at *
    generalize ba_st rows cols w c = a3 at *
    generalize ba_st rows cols y c = a4 at *
    grind
/-- the row that has 1 in one column alone -/
def ba_ind (c : Nat) : Nat → Int := fun x => if x = c then 1 else 0
theorem ba_ind_st {rows : List (Nat → Int)} {cols : List Nat} {c : Nat} (hc : c ∉ cols) (j : Nat) : ba_st rows cols (ba_ind c) j = ba_ind c j * ba_dt rows cols := by
  show ba_iw (ba_ind c) (j :: cols) (fun l => ba_dt rows l) = _
  exact ba_iw_one (fun x hx => by unfold ba_ind; rw [if_neg]; intro q; subst q; exact hc hx)
/-- the new pivot's row, as a row that had its pivot -/
theorem ba_new {rows : List (Nat → Int)} {cols : List Nat} {y : Nat → Int} {c j : Nat} (h : ba_H rows cols) (hc : c ∉ cols) (hj : j ≠ c) : ba_st rows cols y j = - ba_st (y :: rows) (c :: cols) (ba_ind c) j := by
  have hS := ba_two h (ba_ind c) y j c
  rw [ba_ind_st hc, ba_ind_st hc] at hS
  have e1 : ba_ind c j = 0 := if_neg hj
  have e2 : ba_ind c c = 1 := if_pos rfl
  rw [e1, e2] at hS
  refine ba_cancel h.1 ?_
  show ba_dt rows cols * ba_st rows cols y j = ba_dt rows cols * - ba_dt (ba_ind c :: y :: rows) (j :: c :: cols)
  grind
/-- how large a minor can be -/
theorem ba_iw_le {w : Nat → Int} {b M : Int} (hb : 0 ≤ b) (hM : 0 ≤ M) : ∀ {cs : List Nat} {F : List Nat → Int} {L : Nat}, (∀ c ∈ cs, -b ≤ w c ∧ w c ≤ b) → (∀ l : List Nat, l.length + 1 = L → (∀ c ∈ l, c ∈ cs ∨ True) → -M ≤ F l ∧ F l ≤ M) → cs.length = L → -((cs.length : Int) * (b * M)) ≤ ba_iw w cs F ∧ ba_iw w cs F ≤ (cs.length : Int) * (b * M) := by
  intro cs
  induction cs with
  | nil => intro F L _ _ _; show -(((0 : Nat) : Int) * (b * M)) ≤ 0 ∧ (0 : Int) ≤ ((0 : Nat) : Int) * (b * M); omega
  | cons c cs ih =>
    intro F L hw hF hL
    have hc := hw c List.mem_cons_self
    have f0 := hF cs hL (fun _ _ => Or.inr trivial)
    have hbM : 0 ≤ b * M := Int.mul_nonneg hb hM
    have p1 : -(b * M) ≤ w c * F cs ∧ w c * F cs ≤ b * M := by
      have g1 : 0 ≤ (b - w c) * (M - F cs) := Int.mul_nonneg (by omega) (by omega)
      have g2 : 0 ≤ (b + w c) * (M + F cs) := Int.mul_nonneg (by omega) (by omega)
      have g3 : 0 ≤ (b - w c) * (M + F cs) := Int.mul_nonneg (by omega) (by omega)
      have g4 : 0 ≤ (b + w c) * (M - F cs) := Int.mul_nonneg (by omega) (by omega)
      rw [Int.sub_mul, Int.mul_sub, Int.mul_sub] at g1
      rw [Int.add_mul, Int.mul_add, Int.mul_add] at g2
      rw [Int.sub_mul, Int.mul_add, Int.mul_add] at g3
      rw [Int.add_mul, Int.mul_sub, Int.mul_sub] at g4
      omega
    have r := ih (F := fun l => F (c :: l)) (L := cs.length) (fun x hx => hw x (List.mem_cons_of_mem c hx)) (fun l hl _ => hF (c :: l) (by simp; simp at hL; omega) (fun _ _ => Or.inr trivial)) rfl
    rw [ba_iw_c]
    have e : (((c :: cs).length : Nat) : Int) * (b * M) = (cs.length : Int) * (b * M) + b * M := by
      rw [List.length_cons, Int.natCast_add, Int.add_mul]; omega
    rw [e]
    omega
