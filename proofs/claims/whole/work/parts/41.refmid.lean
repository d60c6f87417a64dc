/-! THE REFERENCE: 'state' as a list; the page while an item is put on it -/
def ls12 (st : Nat → Int64) (T : List Value) : List Value := .long (st 0) :: .long (st 1) :: .long (st 2) :: .long (st 3) :: .long (st 4) :: .long (st 5) :: .long (st 6) :: .long (st 7) :: .long (st 8) :: .long (st 9) :: .long (st 10) :: .long (st 11) :: T
theorem ls_of {V : List Value} {st : Nat → Int64} (h2 : V.length = 24) (h3 : ∀ i, i < 12 → V[i]? = some (.long (st i))) : ∃ T, T.length = 12 ∧ V = ls12 st T := by
  match V, h2, h3 with
  | a0 :: a1 :: a2 :: a3 :: a4 :: a5 :: a6 :: a7 :: a8 :: a9 :: a10 :: a11 :: T, h2, h3 =>
    refine ⟨T, by simpa using h2, ?_⟩
    have e0 := h3 0 (by decide); have e1 := h3 1 (by decide); have e2 := h3 2 (by decide); have e3 := h3 3 (by decide)
    have e4 := h3 4 (by decide); have e5 := h3 5 (by decide); have e6 := h3 6 (by decide); have e7 := h3 7 (by decide)
    have e8 := h3 8 (by decide); have e9 := h3 9 (by decide); have e10 := h3 10 (by decide); have e11 := h3 11 (by decide)
    simp at e0 e1 e2 e3 e4 e5 e6 e7 e8 e9 e10 e11
    unfold ls12
    rw [e0, e1, e2, e3, e4, e5, e6, e7, e8, e9, e10, e11]
theorem ls_at {st : Nat → Int64} {T : List Value} : ∀ i, i < 12 → (ls12 st T)[i]? = some (.long (st i)) := by
  intro i hi
  match i, hi with
  | 0, _ => rfl
  | 1, _ => rfl
  | 2, _ => rfl
  | 3, _ => rfl
  | 4, _ => rfl
  | 5, _ => rfl
  | 6, _ => rfl
  | 7, _ => rfl
  | 8, _ => rfl
  | 9, _ => rfl
  | 10, _ => rfl
  | 11, _ => rfl
theorem ls_hi {st : Nat → Int64} {T : List Value} {i : Nat} : (ls12 st T)[12 + i]? = T[i]? := by
  rw [Nat.add_comm]; rfl
theorem RMS_iff {w : xM} {M : Nat → Nat} {st bst : Nat → Int64} {hk : Bool} : RMS w M st bst hk ↔ ∃ T, w (M 24) = some (101, ls12 st T) ∧ T.length = 12 ∧ (hk = true → ∀ i, i < 12 → T[i]? = some (.long (bst i))) := by
  constructor
  · rintro ⟨V, h1, h2, h3, h4⟩
    obtain ⟨T, h5, rfl⟩ := ls_of h2 h3
    exact ⟨T, h1, h5, fun e i hi => by rw [← ls_hi (st := st)]; exact h4 e i hi⟩
  · rintro ⟨T, h1, h2, h3⟩
    exact ⟨_, h1, by unfold ls12; simp [h2], ls_at, fun e i hi => by rw [ls_hi]; exact h3 e i hi⟩
def ups (st : Nat → Int64) (k : Nat) (v : Int64) : Nat → Int64 := fun j => if j = k then v else st j
/-- the page's arrays hold one place more than 'many' says -/
def RMm (w : xM) (M : Nat → Nat) (thr : Int32) (S : MS) (q : Nat × Int32 × Bool) : Prop := w (M 0) = some (mo_ M thr S) ∧ RMI w M S.1 ∧ RMC w M S.2.1 ∧ RML w M S.2.2.2.1 ∧ RMD w M S.2.2.2.1.2.1 (S.2.2.2.2.1.1 ++ [q], S.2.2.2.2.1.2) ∧ RMS w M S.2.2.2.2.1.2.2.1 S.2.2.2.2.2.1.2.2.2.2 S.2.2.2.2.2.1.1 ∧ RMP w M S.2.2.2.2.2.2 ∧ RMX w M
theorem o_ap {l : List (Nat × Int32 × Bool)} {q : Nat × Int32 × Bool} {i : Nat} (h : i < l.length) : (l ++ [q]).getD i (0, 0, false) = l.getD i (0, 0, false) := by
  simp [List.getD, List.getElem?_append_left h]
theorem o_al {l : List (Nat × Int32 × Bool)} {q : Nat × Int32 × Bool} : (l ++ [q]).getD l.length (0, 0, false) = q := by simp [List.getD]
def lessL (a b : Int64) : Int64 := if a.toInt < b.toInt then a else b
def i_g (st : Nat → Int64) (mt : Bool) (sk : Int32) : Int64 := st 1 - (if mt then 0 else sk.toInt64)
def i_free (st : Nat → Int64) (g : Int64) : Int64 := g - st 0 - st 2
def i_needs (h f : Int32) : Int64 := h.toInt64 * f.toInt64 / 1000
def i_stands (st : Nat → Int64) (g : Int64) (c : Nat) (h f ro : Int32) : Bool := decide ((¬ (i_free st g + st 7).toInt < (i_needs h f).toInt ∨ i_needs h f = 0) ∧ ¬ ro.toInt64.toInt < (st (8 + c) + h.toInt64).toInt)
def i_goes (st : Nat → Int64) (g : Int64) (c : Nat) (h f ro : Int32) : Int64 := if f = 0 then lessL (h.toInt64 - 1) (ro.toInt64 - st (8 + c)) else lessL (lessL (h.toInt64 - 1) (ro.toInt64 - st (8 + c))) (i_free st g * 1000 / f.toInt64)
def i_part (st : Nat → Int64) (g : Int64) (c : Nat) (h f ro : Int32) (cuts : Bool) : Int64 := if i_stands st g c h f ro then h.toInt64 else if cuts = true ∧ 0 < (i_goes st g c h f ro).toInt then i_goes st g c h f ro else 0
def ub (f : Nat → Bool) (c : Nat) : Nat → Bool := fun j => if j = c then true else f j
