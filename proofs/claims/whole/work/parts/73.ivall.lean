/-! THE MODEL'S INVARIANT: each item in its place -/
def m_all (S : MS) : List Nat := S.2.2.2.2.1.1.map (fun q => q.1) ++ S.2.2.2.1.1
def p_cnt (P : List PG) (i : Nat) : Nat := ((pg_it P).map (fun q => q.1)).count i
def p_sum (P : List PG) (i : Nat) : Int := ((pg_it P).map (fun q => if q.1 = i then q.2.toInt else 0)).sum
def ivA (I : MI) (C : MC) (T : MT) : Prop := I.1 ≤ 400 ∧ C.1 ≤ 4 ∧ (∀ i, itok C.1 (I.2 i)) ∧ (∀ c, ckok (C.2 c)) ∧ tok T
def ivN (C : MC) (D : MD) : Prop := nmok D.1.length C.2 D.2.2.1 D.2.2.2.2.2.1 ∧ tok (0, D.2.2.2.1, D.2.2.2.2.1) ∧ ∀ c, C.1 ≤ c → c < 4 → D.2.2.1 (8 + c) = 0
def ivL (I : MI) (lf : Nat → Int32) (l : List (Nat × Int32 × Bool)) : Prop := (∀ i, (I.2 i).1 ≠ 4 → lf i = 0) ∧ (∀ i, (I.2 i).1 = 4 → 0 ≤ (lf i).toInt ∧ (lf i).toInt ≤ (I.2 i).2.2.1.toInt) ∧ ∀ q, q ∈ l → ((I.2 q.1).1 ≠ 4 → q.2.1 = 0 ∧ q.2.2 = false) ∧ ((I.2 q.1).1 = 4 → 0 ≤ q.2.1.toInt ∧ q.2.1.toInt ≤ (lf q.1).toInt ∧ (q.2.2 = true ↔ q.2.1.toInt < (lf q.1).toInt))
def ivC (I : MI) (al : List Nat) (lf : Nat → Int32) (we : Nat → Bool) (P : List PG) : Prop := (∀ i, I.1 ≤ i → al.count i = 0 ∧ p_cnt P i = 0 ∧ we i = false) ∧ (∀ i, i < I.1 → (I.2 i).1 ≠ 4 → (if we i then 1 else 0) + p_cnt P i + al.count i = 1) ∧ (∀ i, i < I.1 → (I.2 i).1 = 4 → we i = false ∧ al.count i = (if 0 < (lf i).toInt then 1 else 0) ∧ p_sum P i + (lf i).toInt = (I.2 i).2.2.1.toInt)
def ivB (D : MD) (b : MB) (P : List PG) : Prop := (D.2.1 = true → D.1 ≠ []) ∧ (b.1 = true → b.2.1 ≤ D.1.length ∧ b.2.2.1.toInt ≤ 1073741823) ∧ P.length ≤ 60 ∧ ∀ q, q ∈ P → q.1.length ≤ 400
def iv (S : MS) : Prop := ivA S.1 S.2.1 S.2.2.1 ∧ ivN S.2.1 S.2.2.2.2.1 ∧ ivL S.1 S.2.2.2.1.2.1 S.2.2.2.2.1.1 ∧ ivC S.1 (m_all S) S.2.2.2.1.2.1 S.2.2.2.1.2.2 S.2.2.2.2.2.2 ∧ ivB S.2.2.2.2.1 S.2.2.2.2.2.1 S.2.2.2.2.2.2
theorem nd_len : ∀ n (al : List Nat), (∀ i, n ≤ i → al.count i = 0) → (∀ i, al.count i ≤ 1) → al.length ≤ n
  | 0, al, h, _ => by
    cases al with
    | nil => simp
    | cons a r => have := h a (by omega); simp at this
  | n + 1, al, h, h1 => by
    have ih := nd_len n (al.erase n) (fun i hi => by
      rw [List.count_erase]
      by_cases q : i = n
      · subst q; have := h1 i; simp; omega
      · rw [h i (by omega)]; simp) (fun i => by
      have := h1 i
      rw [List.count_erase]; omega)
    rw [List.length_erase] at ih
    split at ih <;> omega
theorem iv_u {S : MS} (h : iv S) (i : Nat) : (m_all S).count i ≤ 1 := by
  obtain ⟨-, -, -, ⟨c1, c2, c3⟩, -⟩ := h
  by_cases q : i < S.1.1
  · by_cases k : (S.1.2 i).1 = 4
    · rw [(c3 i q k).2.1]; split <;> omega
    · have := c2 i q k; omega
  · rw [(c1 i (by omega)).1]; omega
theorem iv_len {S : MS} (h : iv S) : S.2.2.2.2.1.1.length + S.2.2.2.1.1.length ≤ 400 := by
  have h1 := nd_len S.1.1 (m_all S) (fun i hi => (h.2.2.2.1.1 i hi).1) (iv_u h)
  have h2 := h.1.1
  unfold m_all at h1
  simp at h1
  omega
theorem iv_lt {S : MS} (h : iv S) {i : Nat} (hi : i ∈ m_all S) : i < S.1.1 := by
  have h1 := h.2.2.2.1.1
  refine Classical.byContradiction fun q => ?_
  have := (h1 i (by omega)).1
  have := List.count_pos_iff.mpr hi
  omega
theorem iv_ln {S : MS} (h : iv S) {i : Nat} (hi : i ∈ S.2.2.2.1.1) : i < S.1.1 := iv_lt h (List.mem_append_right _ hi)
theorem iv_pn {S : MS} (h : iv S) {q : Nat × Int32 × Bool} (hi : q ∈ S.2.2.2.2.1.1) : q.1 < S.1.1 := iv_lt h (List.mem_append_left _ (List.mem_map.mpr ⟨q, hi, rfl⟩))
theorem iv_left {S : MS} (h : iv S) {i : Nat} (hi : i ∈ m_all S) (hk : m_kd S i = 4) : 1 ≤ (S.2.2.2.1.2.1 i).toInt ∧ (S.2.2.2.1.2.1 i).toInt ≤ 1000000 := by
  have h1 := h.2.2.2.1.2.2 i (iv_lt h hi) hk
  have h2 := List.count_pos_iff.mpr hi
  have h3 := (h.2.2.1.2.1 i hk).2
  have h4 := ((h.1.2.2.1 i).2.2.2.2.2 hk).2.2.1
  rw [h1.2.1] at h2
  split at h2 <;> omega
theorem iv_okI {S : MS} (h : iv S) : okI S := fun i => by
  obtain ⟨h6, -, h1, -, -, h4⟩ := h.1.2.2.1 i
  exact ⟨h6, fun q => (h4 q).1, fun q => (h1 q).2.2.2.2.1⟩
theorem iv_okl {S : MS} (h : iv S) : okl S := ⟨fun _ hi => iv_ln h hi, fun _ hq => iv_pn h hq, by have := iv_len h; omega⟩
theorem pgn_le : ∀ P : List PG, (∀ q, q ∈ P → q.1.length ≤ 400) → pg_n P ≤ 400 * P.length
  | [], _ => by simp [pg_n]
  | q :: P, h => by
    have ih := pgn_le P fun r hr => h r (List.mem_cons_of_mem _ hr)
    have := h q (List.mem_cons_self)
    unfold pg_n at *
    simp
    omega
/-- one entry of the page for an item -/
theorem q_one : ∀ (Q : List (Nat × Int32 × Bool)) (i : Nat), (Q.map (fun q => q.1)).count i ≤ 1 → ((Q.map (fun q => q.1)).count i = 0 ∧ Q.find? (fun q => q.1 == i) = none ∧ ((Q.filter (fun q => q.2.2)).map (fun q => q.1)).count i = 0 ∧ (Q.map (fun q => if q.1 = i then q.2.1.toInt else 0)).sum = 0) ∨ (∃ q, q ∈ Q ∧ q.1 = i ∧ (Q.map (fun q => q.1)).count i = 1 ∧ Q.find? (fun q => q.1 == i) = some q ∧ ((Q.filter (fun q => q.2.2)).map (fun q => q.1)).count i = (if q.2.2 then 1 else 0) ∧ (Q.map (fun q => if q.1 = i then q.2.1.toInt else 0)).sum = q.2.1.toInt)
  | [], i, _ => Or.inl ⟨rfl, rfl, rfl, rfl⟩
  | q :: Q, i, h => by
    rw [List.map_cons, List.count_cons] at h
    by_cases hq : q.1 = i
    · have hb : (q.1 == i) = true := by simp [hq]
      rw [hb] at h
      simp only [↓reduceIte] at h
      rcases q_one Q i (by omega) with ⟨a1, a2, a3, a4⟩ | ⟨r, r1, r2, r3, -⟩
      · refine Or.inr ⟨q, List.mem_cons_self, hq, ?_, ?_, ?_, ?_⟩
        · rw [List.map_cons, List.count_cons, hb, a1]; rfl
        · rw [List.find?_cons, hb]
        · rw [List.filter_cons]
          cases q.2.2 with
          | true => simp only [↓reduceIte]; rw [List.map_cons, List.count_cons, hb, a3]; rfl
          | false => simp only [Bool.false_eq_true, ↓reduceIte]; exact a3
        · rw [List.map_cons, List.sum_cons, a4, if_pos hq]; omega
      · omega
    · have hb : (q.1 == i) = false := by simp [hq]
      rw [hb] at h
      simp only [Bool.false_eq_true, ↓reduceIte] at h
      have e1 : ((q :: Q).map (fun q => q.1)).count i = (Q.map (fun q => q.1)).count i := by rw [List.map_cons, List.count_cons, hb]; rfl
      have e2 : (q :: Q).find? (fun q => q.1 == i) = Q.find? (fun q => q.1 == i) := by rw [List.find?_cons, hb]
      have e3 : (((q :: Q).filter (fun q => q.2.2)).map (fun q => q.1)).count i = ((Q.filter (fun q => q.2.2)).map (fun q => q.1)).count i := by
        rw [List.filter_cons]
        cases q.2.2 with
        | true => simp only [↓reduceIte]; rw [List.map_cons, List.count_cons, hb]; rfl
        | false => simp only [Bool.false_eq_true, ↓reduceIte]
      have e4 : ((q :: Q).map (fun q => if q.1 = i then q.2.1.toInt else 0)).sum = (Q.map (fun q => if q.1 = i then q.2.1.toInt else 0)).sum := by
        rw [List.map_cons, List.sum_cons, if_neg hq]; omega
      rw [e1, e2, e3, e4]
      rcases q_one Q i (by omega) with a | ⟨r, r1, r2⟩
      · exact Or.inl a
      · exact Or.inr ⟨r, List.mem_cons_of_mem _ r1, r2⟩
