/-! the invariant at the start, and over set, cls and new items -/
theorem iv_new : iv m_new := by
  have t0 : tok (1000, 0, 0) := by unfold tok; decide
  have i0 : itok 0 (0, 0, 0, 0, 0) := by
    refine ⟨by decide, fun _ => by decide, fun q => ?_, fun q => ?_, fun q => ?_, fun q => ?_⟩ <;> (dsimp only at q; omega)
  have k0 : ckok (0, 0, 0, 0) := by unfold ckok; decide
  refine ⟨⟨by decide, by decide, fun _ => i0, fun _ => k0, t0⟩, n_bg (C := (0, fun _ => (0, 0, 0, 0))) (fun _ => k0) t0, ⟨fun _ _ => rfl, fun i q => ?_, (fun q hq => by cases hq)⟩, ⟨fun i _ => ⟨rfl, rfl, rfl⟩, fun i hi => ?_, fun i hi => ?_⟩, ⟨(fun q => by cases q), (fun q => by cases q), by decide, fun q hq => by cases hq⟩⟩
  · exact absurd q (show ¬ (0 : Nat) = 4 by decide)
  · exact absurd hi (Nat.not_lt_zero i)
  · exact absurd hi (Nat.not_lt_zero i)
theorem ok32_t {x : Int32} {lo hi : Int} (h : ok32 x lo hi = true) : lo ≤ x.toInt ∧ x.toInt ≤ hi := of_decide_eq_true h
theorem iv_T {S : MS} {T : MT} (h : iv S) (ht : tok T) : iv (S.1, S.2.1, T, S.2.2.2) := by
  obtain ⟨a, n, l, c, b⟩ := h
  exact ⟨⟨a.1, a.2.1, a.2.2.1, a.2.2.2.1, ht⟩, n, l, c, b⟩
theorem iv_begin {S : MS} (h : iv S) (hp : S.2.2.2.2.1.1 = []) : iv (m_begin S) := by
  obtain ⟨a, n, l, c, b⟩ := h
  have hm : m_all (m_begin S) = m_all S := by
    unfold m_all m_begin m_bg
    rw [hp]
  refine ⟨a, n_bg a.2.2.2.1 a.2.2.2.2, ⟨l.1, l.2.1, (fun q hq => by cases hq)⟩, ?_, ⟨(fun q => by cases q), (fun q => by cases q), b.2.2⟩⟩
  rw [hm]; exact c
theorem iv_set {S : MS} {g d t : Int32} (h : iv S) : iv (m_set S g d t) := by
  unfold m_set
  split
  · rename_i q
    unfold m_okset at q
    rw [Bool.and_eq_true, Bool.and_eq_true] at q
    have ht : tok (g, d, t) := ⟨ok32_t q.1, ok32_t q.2.1, ok32_t q.2.2⟩
    split
    · rename_i hp; exact iv_begin (iv_T h ht) hp
    · exact iv_T h ht
  · exact h
theorem iv_cls {S : MS} {r f s p : Int32} (h : iv S) : iv (m_cls S r f s p) := by
  unfold m_cls
  split
  · rename_i q
    obtain ⟨q1, q2⟩ := q
    unfold m_okcls at q1
    rw [Bool.and_eq_true, Bool.and_eq_true, Bool.and_eq_true] at q1
    have hk : ckok (r, f, s, p) := ⟨ok32_t q1.1, ok32_t q1.2.1, ok32_t q1.2.2.1, ok32_t q1.2.2.2⟩
    obtain ⟨a, n, l, c, b⟩ := h
    have h4 : S.2.1.1 < 4 := by have := a.2.1; omega
    refine ⟨⟨a.1, h4, fun i => ?_, fun k => ?_, a.2.2.2.2⟩, ⟨?_, n.2.1, fun k hk h4 => n.2.2 k (by have hk' : S.2.1.1 + 1 ≤ k := hk; omega) h4⟩, l, c, b⟩
    · obtain ⟨t6, t0, t1, t2, t3, t4⟩ := a.2.2.1 i
      refine ⟨t6, t0, t1, t2, t3, fun q => ?_⟩
      obtain ⟨⟨k, k1, k2⟩, r⟩ := t4 q
      exact ⟨⟨k, Nat.lt_succ_of_lt k1, k2⟩, r⟩
    · show ckok (if k = S.2.1.1 then (r, f, s, p) else S.2.1.2 k)
      split
      · exact hk
      · exact a.2.2.2.1 k
    · obtain ⟨g0, g2, g1, g3, g7, g8, gi⟩ := n.1
      refine ⟨g0, g2, g1, g3, g7, fun k h4 => ?_, gi⟩
      show 0 ≤ (S.2.2.2.2.1.2.2.1 (8 + k)).toInt ∧ (S.2.2.2.2.1.2.2.1 (8 + k)).toInt ≤ (if k = S.2.1.1 then (r, f, s, p) else S.2.1.2 k).1.toInt
      split
      · rename_i q
        rw [n.2.2 k (by omega) h4, c0]
        exact ⟨by omega, hk.1.1⟩
      · exact g8 k h4
  · exact h
theorem psum0 {P : List PG} {i : Nat} (h : p_cnt P i = 0) : p_sum P i = 0 := by
  unfold p_cnt at h
  unfold p_sum
  generalize pg_it P = L at *
  induction L with
  | nil => rfl
  | cons x L ih =>
    rw [List.map_cons, List.count_cons] at h
    rw [List.map_cons, List.sum_cons, ih (by omega), if_neg (fun q => by rw [if_pos (by simp [q])] at h; omega)]
    rfl
theorem iv_add {S : MS} {t : It} (h : iv S) (ht : itok S.2.1.1 t) : iv (m_add S t) := by
  unfold m_add
  split
  · exact h
  · rename_i hn
    have h' := h
    obtain ⟨a, n, l, ⟨c1, c2, c3⟩, b⟩ := h
    have eal : ∀ i, (m_all ((S.1.1 + 1, fun i => if i = S.1.1 then t else S.1.2 i), S.2.1, S.2.2.1, (S.2.2.2.1.1 ++ [S.1.1], (fun i => if i = S.1.1 then i_lf t else S.2.2.2.1.2.1 i), S.2.2.2.1.2.2), S.2.2.2.2)).count i = (m_all S).count i + if i = S.1.1 then 1 else 0 := fun i => by
      unfold m_all
      dsimp only
      rw [← List.append_assoc, List.count_append, List.count_singleton]
      by_cases q : i = S.1.1
      · subst q; simp
      · rw [if_neg q, if_neg (by simp; exact fun z => q z.symm)]
    have i4 : t.1 = 4 → i_lf t = t.2.2.1 := fun q => if_pos q
    have i5 : t.1 ≠ 4 → i_lf t = 0 := fun q => if_neg q
    refine ⟨⟨?_, a.2.1, fun i => ?_, a.2.2.2⟩, n, ⟨fun i hk => ?_, fun i hk => ?_, fun q hq => ?_⟩, ⟨fun i hi => ?_, fun i hi hk => ?_, fun i hi hk => ?_⟩, b⟩
    · show S.1.1 + 1 ≤ 400
      have := a.1; omega
    · show itok S.2.1.1 (if i = S.1.1 then t else S.1.2 i)
      split
      · exact ht
      · exact a.2.2.1 i
    · show (if i = S.1.1 then i_lf t else S.2.2.2.1.2.1 i) = 0
      have hk' : (if i = S.1.1 then t else S.1.2 i).1 ≠ 4 := hk
      split
      · rename_i q; rw [if_pos q] at hk'; exact i5 hk'
      · rename_i q; rw [if_neg q] at hk'; exact l.1 i hk'
    · show 0 ≤ (if i = S.1.1 then i_lf t else S.2.2.2.1.2.1 i).toInt ∧ (if i = S.1.1 then i_lf t else S.2.2.2.1.2.1 i).toInt ≤ (if i = S.1.1 then t else S.1.2 i).2.2.1.toInt
      have hk' : (if i = S.1.1 then t else S.1.2 i).1 = 4 := hk
      by_cases q : i = S.1.1
      · rw [if_pos q] at hk' ⊢
        rw [if_pos q, i4 hk']
        have := (ht.2.2.2.2.2 hk').2.1
        omega
      · rw [if_neg q] at hk' ⊢
        rw [if_neg q]; exact l.2.1 i hk'
    · have hlt := iv_pn h' hq
      have := l.2.2 q hq
      show ((if q.1 = S.1.1 then t else S.1.2 q.1).1 ≠ 4 → _) ∧ ((if q.1 = S.1.1 then t else S.1.2 q.1).1 = 4 → 0 ≤ q.2.1.toInt ∧ q.2.1.toInt ≤ (if q.1 = S.1.1 then i_lf t else S.2.2.2.1.2.1 q.1).toInt ∧ (q.2.2 = true ↔ q.2.1.toInt < (if q.1 = S.1.1 then i_lf t else S.2.2.2.1.2.1 q.1).toInt))
      rw [if_neg (by omega), if_neg (by omega)]
      exact this
    · have hi' : S.1.1 + 1 ≤ i := hi
      have := c1 i (by omega)
      rw [eal, if_neg (by omega)]
      exact this
    · have hk' : (if i = S.1.1 then t else S.1.2 i).1 ≠ 4 := hk
      have hi' : i < S.1.1 + 1 := hi
      rw [eal]
      show (if S.2.2.2.1.2.2 i = true then 1 else 0) + p_cnt S.2.2.2.2.2.2 i + ((m_all S).count i + _) = 1
      by_cases q : i = S.1.1
      · obtain ⟨x1, x2, x3⟩ := c1 i (by omega)
        rw [x1, x2, x3, if_pos q]; rfl
      · rw [if_neg q] at hk' ⊢
        have := c2 i (by omega) hk'
        omega
    · have hk' : (if i = S.1.1 then t else S.1.2 i).1 = 4 := hk
      have hi' : i < S.1.1 + 1 := hi
      rw [eal]
      show S.2.2.2.1.2.2 i = false ∧ (m_all S).count i + _ = (if 0 < (if i = S.1.1 then i_lf t else S.2.2.2.1.2.1 i).toInt then 1 else 0) ∧ p_sum S.2.2.2.2.2.2 i + (if i = S.1.1 then i_lf t else S.2.2.2.1.2.1 i).toInt = (if i = S.1.1 then t else S.1.2 i).2.2.1.toInt
      by_cases q : i = S.1.1
      · obtain ⟨x1, x2, x3⟩ := c1 i (by omega)
        have z := psum0 x2
        rw [if_pos q] at hk'
        have := (ht.2.2.2.2.2 hk').2.1
        rw [x1, z, if_pos q, if_pos q, if_pos q, i4 hk', if_pos (by omega)]
        exact ⟨x3, rfl, by omega⟩
      · rw [if_neg q] at hk'
        have := c3 i (by omega) hk'
        rw [if_neg q, if_neg q, if_neg q]
        exact this
  
