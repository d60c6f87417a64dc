/-! the invariant stays: a step; run stops -/
theorem ag_ok {S : MS} (h : iv S) (a : Nat × Int32) (ha : a ∈ m_again S) : m_lf S.2.2.2.1.2.1 (m_Q S) a.1 = a.2 := by
  have hQ := iv_Q h
  have off : ∀ i, i ∈ m_X S → m_lf S.2.2.2.1.2.1 (m_Q S) i = S.2.2.2.1.2.1 i := fun i hi => by
    have h1 := List.count_pos_iff.mpr hi
    unfold m_lf
    rcases q_one (m_Q S) i (by have := hQ i; omega) with ⟨-, z, -⟩ | ⟨q, -, -, z, -⟩
    · rw [z]
    · have := hQ i; omega
  unfold m_again at ha
  rcases List.mem_append.mp ha with hb | hb
  · rcases List.mem_append.mp hb with hc | hc
    · unfold m_held at hc
      obtain ⟨q, q1, q2⟩ := List.mem_map.mp hc
      have q3 := (List.mem_filter.mp q1).1
      rw [← q2]
      unfold m_lf
      have hpos : 0 < ((m_Q S).map (fun q => q.1)).count q.1 := List.count_pos_iff.mpr (List.mem_map.mpr ⟨q, q3, rfl⟩)
      dsimp only
      rcases q_one (m_Q S) q.1 (by have := hQ q.1; omega) with ⟨z, -⟩ | ⟨r, r1, r2, z1, z2, -⟩
      · omega
      · rw [z2]
        have : r = q := by
          refine Classical.byContradiction fun hn => ?_
          have := nd_two (m_Q S) r q r1 q3 hn r2
          omega
        rw [this]
    · obtain ⟨q, q1, q2⟩ := List.mem_map.mp hc
      rw [← q2]
      refine off _ (List.mem_append_left _ (List.mem_map.mpr ⟨q, ?_, rfl⟩))
      unfold m_bk3 at q1
      split at q1
      · rw [← List.drop_drop] at q1
        exact List.mem_of_mem_drop q1
      · exact q1
  · obtain ⟨q, q1, q2⟩ := List.mem_map.mp hb
    rw [← q2]
    exact off _ (List.mem_append_right _ (List.mem_of_mem_drop q1))
theorem iv_okR {S : MS} (h : iv S) : okR S := by
  have hl := iv_len h
  have he := iv_ends h
  obtain ⟨e1, e2, e3, e4, e5, e6⟩ := m_ends_eq S
  have hp := pgn_le _ h.2.2.2.2.2.2.2
  have h60 := h.2.2.2.2.2.2.1
  refine ⟨iv_okI h, fun i hi => iv_ln h hi, fun q hq => iv_pn h hq, by omega, h.2.2.2.2.1, ?_, by omega, fun a ha => ?_⟩
  · have := (he.2.2.2.2.2.1 e6).1
    rw [e4] at this
    exact this
  · have := ag_ok he a ha
    rw [e3] at this
    exact this
theorem stop_no {S : MS} (h : m_stop S = false) : S.2.2.2.1.1 ≠ [] ∧ S.2.2.2.2.2.2.length < 60 ∧ ¬ (m_drp S = false ∧ m_kd S (m_hd S) = 2 ∧ S.2.2.2.1.1.length = 1) := by
  have := of_decide_eq_false h
  exact ⟨fun q => this (Or.inl q), by omega, fun q => this (Or.inr (Or.inr q))⟩
theorem iv_step {S : MS} (h : iv S) (hs : m_stop S = false) : iv (m_step S) := by
  obtain ⟨n1, n2, -⟩ := stop_no hs
  obtain ⟨e1, e2, e3, e4, e5, e6⟩ := m_ends_eq S
  unfold m_step
  split
  · rename_i q; exact iv_drop h n1 q
  · split
    · split
      · exact iv_end (iv_ends h) (by rw [e3]; exact n1) e6 (by rw [e5]; exact n2)
      · exact iv_put (iv_ends h) (by rw [e3]; exact n1)
    · exact iv_put h n1
def m_phi (S : MS) : Nat := (60 - S.2.2.2.2.2.2.length) * 401 + S.2.2.2.1.1.length
theorem put_ln {S : MS} (hne : S.2.2.2.1.1 ≠ []) : (m_put S).2.2.2.1.1.length + 1 = S.2.2.2.1.1.length ∧ (m_put S).2.2.2.2.2.2 = S.2.2.2.2.2.2 := by
  obtain ⟨-, -, -, e4, -, e6, -⟩ := meet_eq S (m_hd S)
  refine ⟨?_, ?_⟩
  · show (m_meet S (m_hd S)).1.2.2.2.1.1.tail.length + 1 = _
    rw [e4]
    conv => rhs; rw [hd_cons hne]
    rw [List.length_cons]
  · show (m_meet S (m_hd S)).1.2.2.2.2.2.2 = _
    rw [e6]
theorem phi_lt {S : MS} (h : iv S) (hs : m_stop S = false) : m_phi (m_step S) < m_phi S := by
  obtain ⟨n1, n2, -⟩ := stop_no hs
  obtain ⟨e1, e2, e3, e4, e5, e6⟩ := m_ends_eq S
  have hi := iv_step h hs
  unfold m_step at hi ⊢
  unfold m_phi
  split
  · show _ + S.2.2.2.1.1.tail.length < _
    have : S.2.2.2.1.1.tail.length + 1 = S.2.2.2.1.1.length := by
      conv => rhs; rw [hd_cons n1]
      rw [List.length_cons]
    show (60 - S.2.2.2.2.2.2.length) * 401 + _ < _
    omega
  · rename_i q0
    rw [if_neg q0] at hi
    split
    · rename_i q1
      rw [if_pos q1] at hi
      split
      · rename_i q2
        rw [if_pos q2] at hi
        have hl := iv_len hi
        have hl2 : (m_end (m_ends S)).2.2.2.1.1.length ≤ 400 := by omega
        have : (m_end (m_ends S)).2.2.2.2.2.2.length = S.2.2.2.2.2.2.length + 1 := by
          show ((m_ends S).2.2.2.2.2.2 ++ [m_pg (m_ends S)]).length = _
          rw [e5, List.length_append]; rfl
        rw [this]
        have : 60 - S.2.2.2.2.2.2.length = (60 - (S.2.2.2.2.2.2.length + 1)) + 1 := by omega
        rw [this]
        have : (m_end (m_ends S)).2.2.2.1.1.length < 401 := by omega
        rw [Nat.add_mul]
        omega
      · have := put_ln (S := m_ends S) (by rw [e3]; exact n1)
        rw [this.2, e5]
        rw [e3] at this
        omega
    · have := put_ln n1
      rw [this.2]
      omega
theorem run_ok (N : Nat) : ∀ (S : MS), iv S → m_phi S ≤ N → ∃ n, n ≤ N ∧ (∀ k, k < n → iv (m_iter k S) ∧ m_stop (m_iter k S) = false) ∧ iv (m_iter n S) ∧ m_stop (m_iter n S) = true := by
  induction N with
  | zero =>
    intro S h hN
    cases hs : m_stop S with
    | true => exact ⟨0, Nat.le_refl _, fun k hk => by omega, h, hs⟩
    | false =>
      have z := phi_lt h hs
      exact absurd z (by omega)
  | succ N ih =>
    intro S h hN
    cases hs : m_stop S with
    | true => exact ⟨0, Nat.zero_le _, fun k hk => by omega, h, hs⟩
    | false =>
      have z := phi_lt h hs
      obtain ⟨n, n1, n2, n3, n4⟩ := ih (m_step S) (iv_step h hs) (by omega)
      refine ⟨n + 1, Nat.succ_le_succ n1, fun k hk => ?_, n3, n4⟩
      cases k with
      | zero => exact ⟨h, hs⟩
      | succ k => exact n2 k (by omega)
theorem phi_le {S : MS} (h : iv S) : m_phi S ≤ 24460 := by
  have h1 := iv_len h
  have h2 : (60 - S.2.2.2.2.2.2.length) * 401 ≤ 60 * 401 := Nat.mul_le_mul_right _ (Nat.sub_le _ _)
  have h4 : S.2.2.2.1.1.length ≤ 400 := by omega
  exact Nat.add_le_add h2 h4
