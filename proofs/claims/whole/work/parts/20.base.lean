/-! ROWS FOR LISTS OF LOCALS -/
theorem x_nl0 {L : List Value} : x_nl L 0 := fun j v h => by omega
theorem x_nls {a : Value} {L : List Value} {k : Nat} : x_nl (a :: L) (k + 2) ↔ x_nl L (k + 1) := by
  constructor
  · intro h j v hj hv
    exact h (j + 1) v (by omega) (by rw [List.getElem?_cons_succ]; exact hv)
  · intro h j v hj hv
    cases j with
    | zero => omega
    | succ j => exact h j v (by omega) (by rw [List.getElem?_cons_succ] at hv; exact hv)
theorem x_nl1 {a : Value} {L : List Value} : x_nl (a :: L) 1 ↔ a.category = 1 := by
  constructor
  · intro h; exact h 0 a rfl rfl
  · intro h j v hj hv
    have : j = 0 := by omega
    subst this
    simp at hv
    rw [← hv]; exact h
theorem x_nl2 {a b : Value} {L : List Value} : x_nl (a :: b :: L) 2 ↔ b.category = 1 := x_nls.trans x_nl1
theorem x_nl3 {a b c : Value} {L : List Value} : x_nl (a :: b :: c :: L) 3 ↔ c.category = 1 := x_nls.trans x_nl2
theorem x_nl4 {a b c d : Value} {L : List Value} : x_nl (a :: b :: c :: d :: L) 4 ↔ d.category = 1 := x_nls.trans x_nl3
theorem x_nl5 {a b c d e : Value} {L : List Value} : x_nl (a :: b :: c :: d :: e :: L) 5 ↔ e.category = 1 := x_nls.trans x_nl4
theorem x_nl6 {a b c d e f : Value} {L : List Value} : x_nl (a :: b :: c :: d :: e :: f :: L) 6 ↔ f.category = 1 := x_nls.trans x_nl5
theorem x_nl7 {a b c d e f g : Value} {L : List Value} : x_nl (a :: b :: c :: d :: e :: f :: g :: L) 7 ↔ g.category = 1 := x_nls.trans x_nl6
theorem x_nl8 {a b c d e f g h : Value} {L : List Value} : x_nl (a :: b :: c :: d :: e :: f :: g :: h :: L) 8 ↔ h.category = 1 := x_nls.trans x_nl7
theorem x_nl9 {z a b c d e f g h : Value} {L : List Value} : x_nl (z :: a :: b :: c :: d :: e :: f :: g :: h :: L) 9 ↔ h.category = 1 := x_nls.trans x_nl8
theorem x_nl10 {y z a b c d e f g h : Value} {L : List Value} : x_nl (y :: z :: a :: b :: c :: d :: e :: f :: g :: h :: L) 10 ↔ h.category = 1 := x_nls.trans x_nl9
theorem x_nl11 {x y z a b c d e f g h : Value} {L : List Value} : x_nl (x :: y :: z :: a :: b :: c :: d :: e :: f :: g :: h :: L) 11 ↔ h.category = 1 := x_nls.trans x_nl10
theorem x_nl12 {w x y z a b c d e f g h : Value} {L : List Value} : x_nl (w :: x :: y :: z :: a :: b :: c :: d :: e :: f :: g :: h :: L) 12 ↔ h.category = 1 := x_nls.trans x_nl11
theorem x_clv {t : Nat} {E : xR} {a : Nat} {rr fs : List Value} {σ : xW} {K : xK} (h : σ.1 a = some (t, fs)) : x_cl (x_v t E) (.ref a :: rr) σ K ↔ x_cl E (.ref a :: rr) σ K := by
  constructor
  · rintro ⟨v, g, ⟨-, h1⟩, h2⟩; exact ⟨v, g, h1, h2⟩
  · rintro ⟨v, g, h1, h2⟩; exact ⟨v, g, ⟨⟨a, rr, fs, rfl, h⟩, h1⟩, h2⟩
theorem x_cl1 {E : xR} {a : Nat} {rr : List Value} {σ : xW} {K : xK} : x_cl (x_n1 E) (.ref a :: rr) σ K ↔ x_cl E (.ref a :: rr) σ K := by
  constructor
  · rintro ⟨v, g, ⟨-, h1⟩, h2⟩; exact ⟨v, g, h1, h2⟩
  · rintro ⟨v, g, h1, h2⟩; exact ⟨v, g, ⟨⟨a, rr, rfl⟩, h1⟩, h2⟩
theorem x_clo {a : Nat} {σ : xW} {K : xK} : x_cl x_obj [.ref a] σ K ↔ K none σ := by
  constructor
  · rintro ⟨v, g, ⟨-, rfl, rfl⟩, h2⟩; exact h2
  · intro h; exact ⟨_, _, ⟨⟨a, rfl⟩, rfl, rfl⟩, h⟩
theorem x_clm {a b : Int64} {σ : xW} {K : xK} : x_cl x_min [.long a, .long b] σ K ↔ K (some (.long (if b < a then b else a))) σ := by
  constructor
  · rintro ⟨v, g, ⟨x, y, h1, rfl, rfl⟩, h2⟩
    cases h1
    exact h2
  · intro h; exact ⟨_, _, ⟨a, b, rfl, rfl, rfl⟩, h⟩
theorem x_uu {w : xM} {a : Nat} {e f : xE} : x_up (x_up w a e) a f = x_up w a f := by
  funext j
  unfold x_up
  by_cases h : j = a <;> simp [h]
theorem x_um {w : xM} {a : Nat} {e : xE} (h : w a = some e) : x_up w a e = w := by
  funext j
  unfold x_up
  by_cases hj : j = a
  · rw [if_pos hj, hj, h]
  · rw [if_neg hj]
theorem x_uc {w : xM} {a b : Nat} {e f : xE} (h : a ≠ b) : x_up (x_up w a e) b f = x_up (x_up w b f) a e := by
  funext j
  unfold x_up
  by_cases h1 : j = a <;> by_cases h2 : j = b
  · exact absurd (h1.symm.trans h2) h
  · rw [if_neg h2, if_pos h1, if_pos h1]
  · rw [if_pos h2, if_neg h1, if_pos h2]
  · rw [if_neg h2, if_neg h1, if_neg h1, if_neg h2]
theorem x_clvu {t : Nat} {E : xR} {a : Nat} {rr fs : List Value} {w : xM} {s : Nat × Nat} {K : xK} : x_cl (x_v t E) (.ref a :: rr) (x_up w a (t, fs), s) K ↔ x_cl E (.ref a :: rr) (x_up w a (t, fs), s) K := x_clv (x_up_self _ _ _)
theorem x_clvp {t : Nat} {E : xR} {a : Nat} {rr fs : List Value} {w : xM} {s : Nat × Nat} {K : xK} (h : w a = some (t, fs)) : x_cl (x_v t E) (.ref a :: rr) (w, s) K ↔ x_cl E (.ref a :: rr) (w, s) K := x_clv h
