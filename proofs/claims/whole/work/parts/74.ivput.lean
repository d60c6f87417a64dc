/-! the invariant stays: drop, a break weighed, put -/
theorem hd_cons {S : MS} (hne : S.2.2.2.1.1 ≠ []) : S.2.2.2.1.1 = m_hd S :: S.2.2.2.1.1.tail := by
  unfold m_hd
  cases h : S.2.2.2.1.1 with
  | nil => exact absurd h hne
  | cons a r => rfl
theorem hd_all {S : MS} (hne : S.2.2.2.1.1 ≠ []) : m_hd S ∈ m_all S := List.mem_append_right _ (by rw [hd_cons hne]; exact List.mem_cons_self)
theorem iv_drop {S : MS} (h : iv S) (hne : S.2.2.2.1.1 ≠ []) (hd : m_drp S = true) : iv (m_drop S) := by
  obtain ⟨a, n, l, ⟨c1, c2, c3⟩, b⟩ := h
  have h' : iv S := ⟨a, n, l, ⟨c1, c2, c3⟩, b⟩
  have hk := of_decide_eq_true hd
  have hlt := iv_lt h' (hd_all hne)
  have ec : ∀ i, (m_all S).count i = (m_all (m_drop S)).count i + if m_hd S = i then 1 else 0 := fun i => by
    unfold m_all m_drop
    dsimp only
    have e := hd_cons hne
    rw [List.count_append, List.count_append]
    conv => lhs; rw [e, List.count_cons]
    by_cases q : m_hd S = i <;> simp [q]
    omega
  have ek : m_kd S (m_hd S) ≠ 4 := by omega
  have u := iv_u h'
  refine ⟨a, n, l, ⟨fun i hi => ?_, fun i hi k => ?_, fun i hi k => ?_⟩, b⟩
  · obtain ⟨x1, x2, x3⟩ := c1 i hi
    have hi' : S.1.1 ≤ i := hi
    have e := ec i
    rw [x1, if_neg (by omega)] at e
    refine ⟨by omega, x2, ?_⟩
    show ub S.2.2.2.1.2.2 (m_hd S) i = false
    unfold ub
    rw [if_neg (by omega)]; exact x3
  · have x := c2 i hi k
    have e := ec i
    show (if ub S.2.2.2.1.2.2 (m_hd S) i = true then 1 else 0) + p_cnt S.2.2.2.2.2.2 i + (m_all (m_drop S)).count i = 1
    unfold ub
    by_cases q : i = m_hd S
    · rw [if_pos q.symm] at e
      rw [if_pos q]
      by_cases w : S.2.2.2.1.2.2 i = true
      · rw [if_pos w] at x; omega
      · rw [if_neg w] at x; simp; omega
    · rw [if_neg (fun z => q z.symm)] at e
      rw [if_neg q]; omega
  · have x := c3 i hi k
    have e := ec i
    have q : ¬ m_hd S = i := fun z => ek (by rw [z]; exact k)
    rw [if_neg q] at e
    refine ⟨?_, ?_, x.2.2⟩
    · show ub S.2.2.2.1.2.2 (m_hd S) i = false
      unfold ub
      rw [if_neg (fun z => q z.symm)]; exact x.1
    · have z := x.2.1
      rw [e, Nat.add_zero] at z
      exact z
theorem m_cost_le {st : Nat → Int64} {ins : Int64} {p : Int32} (h0 : sm (st 0)) (h1 : sm (st 1)) (h3 : 0 ≤ (st 3).toInt) (h7 : 0 ≤ (st 7).toInt) (hp : -10000 ≤ p.toInt ∧ p.toInt ≤ 10000) (hi : 0 ≤ ins.toInt) : (m_cost st ins p).toInt ≤ 1073741823 := by
  have cA : (1073741823 : Int64).toInt = 1073741823 := by decide
  have cB : (100000 : Int64).toInt = 100000 := by decide
  unfold m_cost
  split
  · omega
  · split
    · rw [i32_64]; omega
    · rename_i q1 q2
      split
      · have rb := m_b_rng h0 h1 h3 h7
        have e1 : (m_b st + p.toInt64).toInt = (m_b st).toInt + p.toInt := by rw [i64_add (by rw [i32_64]; omega), i32_64]
        rw [i64_add (by rw [e1]; omega), e1]
        omega
      · omega
theorem iv_sm {S : MS} (h : iv S) : sm (S.2.2.2.2.1.2.2.1 0) ∧ sm (S.2.2.2.2.1.2.2.1 1) ∧ 0 ≤ (S.2.2.2.2.1.2.2.1 3).toInt ∧ 0 ≤ (S.2.2.2.2.1.2.2.1 7).toInt := by
  have hl := iv_len h
  obtain ⟨g0, g2, g1, g3, g7, -⟩ := h.2.1.1
  have := g3 0 (by decide)
  refine ⟨⟨by omega, by omega⟩, ⟨by omega, by omega⟩, this.1, g7.1⟩
theorem iv_pr {S : MS} (h : iv S) : -10000 ≤ (m_pr S).toInt ∧ (m_pr S).toInt ≤ 10000 := by
  unfold m_pr
  split
  · rename_i q
    exact (h.1.2.2.1 (m_hd S)).2.2.2.2.1 q
  · decide
theorem iv_cost {S : MS} (h : iv S) : (m_c S).toInt ≤ 1073741823 := by
  obtain ⟨h0, h1, h3, h7⟩ := iv_sm h
  exact m_cost_le h0 h1 h3 h7 (iv_pr h) h.2.1.1.2.2.2.2.2.2.1
theorem iv_ends {S : MS} (h : iv S) : iv (m_ends S) := by
  have hc := iv_cost h
  unfold m_ends
  split
  · obtain ⟨a, n, l, c, b⟩ := h
    exact ⟨a, n, l, c, b.1, fun _ => ⟨Nat.le_refl _, hc⟩, b.2.2⟩
  · exact h
theorem meet_eq (S : MS) (i : Nat) : (m_meet S i).1.1 = S.1 ∧ (m_meet S i).1.2.1 = S.2.1 ∧ (m_meet S i).1.2.2.1 = S.2.2.1 ∧ (m_meet S i).1.2.2.2.1 = S.2.2.2.1 ∧ (m_meet S i).1.2.2.2.2.1.1 = S.2.2.2.2.1.1 ∧ (m_meet S i).1.2.2.2.2.2 = S.2.2.2.2.2 ∧ (m_meet S i).2.1 = i ∧ (m_meet S i).1.2.2.2.2.1.2.2.2.1 = S.2.2.2.2.1.2.2.2.1 ∧ (m_meet S i).1.2.2.2.2.1.2.2.2.2.1 = S.2.2.2.2.1.2.2.2.2.1 := by
  unfold m_meet
  split
  · exact ⟨rfl, rfl, rfl, rfl, rfl, rfl, rfl, rfl, rfl⟩
  · split
    · exact ⟨rfl, rfl, rfl, rfl, rfl, rfl, rfl, rfl, rfl⟩
    · split
      · exact ⟨rfl, rfl, rfl, rfl, rfl, rfl, rfl, rfl, rfl⟩
      · split
        · exact ⟨rfl, rfl, rfl, rfl, rfl, rfl, rfl, rfl, rfl⟩
        · exact ⟨rfl, rfl, rfl, rfl, rfl, rfl, rfl, rfl, rfl⟩
theorem iv_it {S : MS} (h : iv S) (i : Nat) : itok S.2.1.1 (S.1.2 i) := h.1.2.2.1 i
theorem ins_c {S : MS} (h : iv S) {i : Nat} (hk : m_kd S i = 4) : (S.1.2 i).2.1.toInt.toNat < S.2.1.1 ∧ (S.1.2 i).2.1.toInt.toNat < 4 ∧ (S.1.2 i).2.1 = nI (S.1.2 i).2.1.toInt.toNat := by
  obtain ⟨c, c1, c2⟩ := ((iv_it h i).2.2.2.2.2 hk).1
  have := h.1.2.1
  rw [c2, nI_nat (by omega)]
  exact ⟨c1, by omega, rfl⟩
/-- what m_meet does to the numbers -/
theorem meet_nm {S : MS} (h : iv S) (hne : S.2.2.2.1.1 ≠ []) : ivN S.2.1 (m_psh (m_meet S (m_hd S)).1 (m_meet S (m_hd S)).2).2.2.2.2.1 := by
  have hl := iv_len h
  have hin := hd_all hne
  obtain ⟨n1, n2, n3⟩ := h.2.1
  have t := iv_it h (m_hd S)
  have ed : ∀ (st : Nat → Int64), (∀ j, 8 ≤ j → st j = S.2.2.2.2.1.2.2.1 j) → ∀ c, S.2.1.1 ≤ c → c < 4 → st (8 + c) = 0 := fun st hst c hc h4 => by
    rw [hst _ (by omega)]; exact n3 c hc h4
  have lim8 : ∀ (mo : Int32) (st : Nat → Int64) j, 8 ≤ j → m_lim mo st j = st j := fun mo st j hj => by
    unfold m_lim
    split
    · rw [ups_ne (by omega), ups_ne (by omega)]
    · rfl
  have k := ks_nm (b := S.2.2.2.2.1.2.1) (by omega) n1 t n2.2.1 n2.2.2
  unfold ivN m_psh
  dsimp only
  rw [List.length_append]
  unfold m_meet
  split
  · rename_i q
    rw [cb_eq t q n2.2.2] at k
    refine ⟨k, n2, ed _ fun j hj => ?_⟩
    show m_lim _ _ j = _
    rw [lim8 _ _ j hj]; unfold m_box; rw [ups_ne (by omega), ups_ne (by omega)]
  · split
    · rename_i q0 q
      rw [cg_eq t q n2.2.1.1] at k
      refine ⟨k, n2, ed _ fun j hj => ?_⟩
      show m_lim _ _ j = _
      obtain ⟨o, o4, ho⟩ := (t.2.2.1 q).2.2.2.2.1
      rw [lim8 _ _ j hj]; unfold m_glue; rw [ho, nI_nat (by omega), ups_ne (by omega), ups_ne (by omega), ups_ne (by omega), ups_ne (by omega)]
    · split
      · rename_i q0 q1 q
        rw [ck_eq q] at k
        refine ⟨k, n2, ed _ fun j hj => ?_⟩
        show m_lim _ _ j = _
        rw [lim8 _ _ j hj]; unfold m_kern; rw [ups_ne (by omega), ups_ne (by omega)]
      · split
        · rename_i q0 q1 q2 q
          obtain ⟨cc, c4, ce⟩ := ins_c h q
          have hlf := iv_left h hin q
          have k2 := nm_ins (cu := decide ((S.1.2 (m_hd S)).2.2.2.1 = 1)) (by omega) n1 c4 (h.1.2.2.2.1 _) hlf.1 hlf.2
          refine ⟨k2, n2, fun c hc h4 => ?_⟩
          unfold m_ins m_pi m_met
          dsimp only
          rw [ups_ne (by omega), ups_ne (by omega), ups_ne (by omega)]
          exact n3 c hc h4
        · exact ⟨nm_keep n1, n2, n3⟩
theorem iv_put {S : MS} (h : iv S) (hne : S.2.2.2.1.1 ≠ []) : iv (m_put S) := by
  have hl := iv_len h
  have hin := hd_all hne
  have hN := meet_nm h hne
  obtain ⟨e1, e2, e3, e4, e5, e6, e7, e8, e9⟩ := meet_eq S (m_hd S)
  have hM : m_all (m_put S) = m_all S := by
    unfold m_all m_put m_take m_psh
    dsimp only
    rw [e4, e5, List.map_append, List.append_assoc]
    conv => rhs; rw [hd_cons hne]
    rw [List.map_cons, e7]; rfl
  obtain ⟨a, n, l, c, b⟩ := h
  have h' : iv S := ⟨a, n, l, c, b⟩
  have hq : ((S.1.2 (m_meet S (m_hd S)).2.1).1 ≠ 4 → (m_meet S (m_hd S)).2.2.1 = 0 ∧ (m_meet S (m_hd S)).2.2.2 = false) ∧ ((S.1.2 (m_meet S (m_hd S)).2.1).1 = 4 → 0 ≤ (m_meet S (m_hd S)).2.2.1.toInt ∧ (m_meet S (m_hd S)).2.2.1.toInt ≤ (S.2.2.2.1.2.1 (m_meet S (m_hd S)).2.1).toInt ∧ ((m_meet S (m_hd S)).2.2.2 = true ↔ (m_meet S (m_hd S)).2.2.1.toInt < (S.2.2.2.1.2.1 (m_meet S (m_hd S)).2.1).toInt)) := by
    rw [e7]
    have key : m_kd S (m_hd S) = 4 → (m_meet S (m_hd S)).2 = (m_hd S, (i_pt S (S.1.2 (m_hd S)).2.1.toInt.toNat (S.2.2.2.1.2.1 (m_hd S)) (decide ((S.1.2 (m_hd S)).2.2.2.1 = 1))).toInt32, !(i_sd S (S.1.2 (m_hd S)).2.1.toInt.toNat (S.2.2.2.1.2.1 (m_hd S)))) := fun q => by
      unfold m_meet
      rw [if_neg (by omega), if_neg (by omega), if_neg (by omega), if_pos q]
    have keo : m_kd S (m_hd S) ≠ 4 → (m_meet S (m_hd S)).2 = (m_hd S, 0, false) := fun q => by
      unfold m_meet
      split
      · rfl
      · split
        · rfl
        · split
          · rfl
          · rfl
    refine ⟨fun q => by rw [keo q]; exact ⟨rfl, rfl⟩, fun q => ?_⟩
    obtain ⟨cc, c4, ce⟩ := ins_c h' q
    have hlf := iv_left h' hin q
    obtain ⟨r1, r2, r3, r4⟩ := i_pt_rng (cu := decide ((S.1.2 (m_hd S)).2.2.2.1 = 1)) (by omega) n.1 c4 (a.2.2.2.1 _) hlf.1 hlf.2
    have p := (pt32 r1 r2 hlf.2).1
    rw [key q]
    dsimp only
    rw [p]
    refine ⟨r1, r2, ?_⟩
    rw [Bool.not_eq_true', ← Bool.not_eq_true, r4]
    omega
  refine ⟨?_, ?_, ?_, ?_, ?_⟩
  · show ivA (m_meet S (m_hd S)).1.1 (m_meet S (m_hd S)).1.2.1 (m_meet S (m_hd S)).1.2.2.1
    rw [e1, e2, e3]; exact a
  · show ivN (m_meet S (m_hd S)).1.2.1 _
    rw [e2]; exact hN
  · show ivL (m_meet S (m_hd S)).1.1 (m_meet S (m_hd S)).1.2.2.2.1.2.1 ((m_meet S (m_hd S)).1.2.2.2.2.1.1 ++ [(m_meet S (m_hd S)).2])
    rw [e1, e4, e5]
    refine ⟨l.1, l.2.1, fun q hqm => ?_⟩
    rcases List.mem_append.mp hqm with z | z
    · exact l.2.2 q z
    · rw [List.mem_singleton] at z
      rw [z]; exact hq
  · rw [hM]
    show ivC (m_meet S (m_hd S)).1.1 _ (m_meet S (m_hd S)).1.2.2.2.1.2.1 (m_meet S (m_hd S)).1.2.2.2.1.2.2 (m_meet S (m_hd S)).1.2.2.2.2.2.2
    rw [e1, e4, e6]; exact c
  · show ivB ((m_meet S (m_hd S)).1.2.2.2.2.1.1 ++ [(m_meet S (m_hd S)).2], (m_meet S (m_hd S)).1.2.2.2.2.1.2) (m_meet S (m_hd S)).1.2.2.2.2.2.1 (m_meet S (m_hd S)).1.2.2.2.2.2.2
    rw [e5, e6]
    refine ⟨fun _ => by simp, fun q => ?_, b.2.2⟩
    have := b.2.1 q
    dsimp only
    rw [List.length_append]
    exact ⟨by omega, this.2⟩
