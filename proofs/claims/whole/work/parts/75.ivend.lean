/-! the invariant stays: a page ends -/
theorem q_rest {S : MS} : S.2.2.2.2.1.1 = m_Q S ++ S.2.2.2.2.1.1.drop S.2.2.2.2.2.1.2.1 := (List.take_append_drop _ _).symm
/-- what stood behind the break, and the line -/
def m_X (S : MS) : List Nat := (S.2.2.2.2.1.1.drop S.2.2.2.2.2.1.2.1).map (fun q => q.1) ++ S.2.2.2.1.1
theorem all_QX {S : MS} : m_all S = (m_Q S).map (fun q => q.1) ++ m_X S := by
  unfold m_all m_X
  rw [← List.append_assoc, ← List.map_append, ← q_rest]
def m_X' (S : MS) : List Nat := if m_kd S (m_fst S) = 3 then (m_X S).tail else m_X S
theorem again_X {S : MS} (hb : S.2.2.2.2.2.1.2.1 ≤ S.2.2.2.2.1.1.length) : (m_again S).map (fun a => a.1) = (m_held S.2.2.2.1.2.1 (m_Q S)).map (fun a => a.1) ++ m_X' S := by
  unfold m_again
  rw [List.map_append, List.map_append, List.append_assoc, List.map_map, List.map_map]
  congr 1
  have e1 : ((fun a : Nat × Int32 => a.1) ∘ fun q : Nat × Int32 × Bool => (q.1, S.2.2.2.1.2.1 q.1)) = fun q => q.1 := rfl
  have e2 : ((fun a : Nat × Int32 => a.1) ∘ fun i : Nat => (i, S.2.2.2.1.2.1 i)) = fun i => i := rfl
  rw [e1, e2, List.map_id']
  unfold m_X' m_X m_bk3 m_skips m_fst
  by_cases hlt : S.2.2.2.2.2.1.2.1 < S.2.2.2.2.1.1.length
  · rw [if_neg (show ¬ (S.2.2.2.2.2.1.2.1 = S.2.2.2.2.1.1.length ∧ m_kd S (m_hd S) = 3) by omega), List.drop_zero]
    have ec : S.2.2.2.2.1.1.drop S.2.2.2.2.2.1.2.1 = S.2.2.2.2.1.1[S.2.2.2.2.2.1.2.1] :: S.2.2.2.2.1.1.drop (S.2.2.2.2.2.1.2.1 + 1) := List.drop_eq_getElem_cons hlt
    have eo : on_i S.2.2.2.2.1.1 S.2.2.2.2.2.1.2.1 = (S.2.2.2.2.1.1[S.2.2.2.2.2.1.2.1]).1 := by
      unfold on_i
      rw [List.getD_eq_getElem?_getD, List.getElem?_eq_getElem hlt]; rfl
    rw [eo, ec, List.map_cons, List.cons_append]
    have ez : ∀ (a : Nat) (r : List Nat), (a :: r).getD 0 0 = a := fun _ _ => rfl
    rw [ez]
    by_cases q : m_kd S (S.2.2.2.2.1.1[S.2.2.2.2.2.1.2.1]).1 = 3
    · rw [if_pos q, if_pos ⟨hlt, q⟩, List.tail_cons]
    · rw [if_neg q, if_neg (fun z => q z.2), List.map_cons, List.cons_append]
  · have he : S.2.2.2.2.2.1.2.1 = S.2.2.2.2.1.1.length := by omega
    rw [if_neg (fun z => hlt z.1), he, List.drop_length, List.map_nil, List.nil_append, List.nil_append]
    have eh : S.2.2.2.1.1.getD 0 0 = m_hd S := rfl
    rw [eh]
    by_cases q : m_kd S (m_hd S) = 3
    · rw [if_pos q, if_pos ⟨rfl, q⟩]
      cases S.2.2.2.1.1 <;> rfl
    · rw [if_neg q, if_neg (fun z => q z.2), List.drop_zero]
theorem X_ne {S : MS} (hne : S.2.2.2.1.1 ≠ []) : m_X S = m_fst S :: (m_X S).tail := by
  have : m_X S ≠ [] := by unfold m_X; simp [hne]
  have e : m_fst S = (m_X S).getD 0 0 := rfl
  rw [e]
  cases h : m_X S with
  | nil => exact absurd h this
  | cons a r => rfl
theorem X_cnt {S : MS} (hne : S.2.2.2.1.1 ≠ []) (i : Nat) : (m_X S).count i = (m_X' S).count i + (if m_kd S (m_fst S) = 3 ∧ m_fst S = i then 1 else 0) := by
  unfold m_X'
  by_cases q : m_kd S (m_fst S) = 3
  · rw [if_pos q]
    conv => lhs; rw [X_ne hne, List.count_cons]
    by_cases z : m_fst S = i
    · have q' : m_kd S i = 3 := z ▸ q
      simp [z, q']
    · simp [z]
  · rw [if_neg q, if_neg (fun y => q y.1)]; rfl
theorem held_m {lf : Nat → Int32} {Q : List (Nat × Int32 × Bool)} : (m_held lf Q).map (fun a => a.1) = (Q.filter (fun q => q.2.2)).map (fun q => q.1) := by
  unfold m_held
  rw [List.map_map]; rfl
theorem pit_ap {P : List PG} {g : PG} : pg_it (P ++ [g]) = pg_it P ++ g.1 := by
  unfold pg_it
  rw [List.flatMap_append]; simp
theorem pcnt_ap {P : List PG} {g : PG} {i : Nat} : p_cnt (P ++ [g]) i = p_cnt P i + (g.1.map (fun q => q.1)).count i := by
  unfold p_cnt
  rw [pit_ap, List.map_append, List.count_append]
theorem psum_ap {P : List PG} {g : PG} {i : Nat} : p_sum (P ++ [g]) i = p_sum P i + (g.1.map (fun q => if q.1 = i then q.2.toInt else 0)).sum := by
  unfold p_sum
  rw [pit_ap, List.map_append, List.sum_append]
theorem pg_Q1 {S : MS} : (m_pg S).1.map (fun q => q.1) = (m_Q S).map (fun q => q.1) := by
  unfold m_pg
  rw [List.map_map]; rfl
theorem pg_Q2 {S : MS} {i : Nat} : (m_pg S).1.map (fun q => if q.1 = i then q.2.toInt else 0) = (m_Q S).map (fun q => if q.1 = i then q.2.1.toInt else 0) := by
  unfold m_pg
  rw [List.map_map]; rfl
theorem iv_Q {S : MS} (h : iv S) (i : Nat) : ((m_Q S).map (fun q => q.1)).count i + (m_X S).count i ≤ 1 := by
  have := iv_u h i
  rw [all_QX, List.count_append] at this
  exact this
theorem Q_mem {S : MS} {q : Nat × Int32 × Bool} (h : q ∈ m_Q S) : q ∈ S.2.2.2.2.1.1 := List.mem_of_mem_take h
/-- two entries for one item: counted twice -/
theorem nd_two : ∀ (Q : List (Nat × Int32 × Bool)) (r q : Nat × Int32 × Bool), r ∈ Q → q ∈ Q → ¬ r = q → r.1 = q.1 → 2 ≤ (Q.map (fun q => q.1)).count q.1
  | [], r, q, h, _, _, _ => by cases h
  | x :: Q, r, q, hr, hq, hn, he => by
    rw [List.map_cons, List.count_cons]
    have pos : ∀ z : Nat × Int32 × Bool, z ∈ Q → z.1 = q.1 → 1 ≤ (Q.map (fun q => q.1)).count q.1 := fun z hz hz1 => List.count_pos_iff.mpr (List.mem_map.mpr ⟨z, hz, hz1⟩)
    rcases List.mem_cons.mp hr with h1 | h1 <;> rcases List.mem_cons.mp hq with h2 | h2
    · exact absurd (h1.trans h2.symm) hn
    · have := pos q h2 rfl
      rw [if_pos (by rw [← h1]; simp [he])]; omega
    · have := pos r h1 he
      rw [if_pos (by rw [← h2]; simp)]; omega
    · have := nd_two Q r q h1 h2 hn he; omega
theorem n_bg {C : MC} {T : MT} (hc : ∀ c, ckok (C.2 c)) (ht : tok T) : ivN C (m_bg T) := by
  have e : ∀ j, j ≠ 1 → (m_bg T).2.2.1 j = 0 := fun j hj => if_neg hj
  have e1 : (m_bg T).2.2.1 1 = T.1.toInt64 := rfl
  have z : (0 : Int64).toInt = 0 := c0
  have el : (m_bg T).1.length = 0 := rfl
  have ei : (m_bg T).2.2.2.2.2.1 = 0 := rfl
  unfold ivN nmok
  rw [el, ei]
  refine ⟨⟨?_, ?_, ?_, fun k hk => ?_, ?_, fun c h4 => ?_, ?_⟩, ⟨?_, ht.2.1, ht.2.2⟩, fun c _ h4 => e _ (by omega)⟩
  · rw [e 0 (by decide), z]; omega
  · rw [e 2 (by decide), z]; omega
  · rw [e1, i32_64]; have := ht.1; omega
  · rw [e _ (by omega), z]; omega
  · rw [e 7 (by decide), z]; omega
  · rw [e _ (by omega), z]; exact ⟨by omega, (hc c).1.1⟩
  · rw [z]; omega
  · exact (show 0 ≤ (0 : Int32).toInt ∧ (0 : Int32).toInt ≤ 10000000 by decide)
theorem iv_end {S : MS} (h : iv S) (hne : S.2.2.2.1.1 ≠ []) (hb : S.2.2.2.2.2.1.1 = true) (hp : S.2.2.2.2.2.2.length < 60) : iv (m_end S) := by
  have hlen := iv_len h
  have hQ := iv_Q h
  obtain ⟨a, n, l, ⟨c1, c2, c3⟩, b⟩ := h
  have h' : iv S := ⟨a, n, l, ⟨c1, c2, c3⟩, b⟩
  have hbs := (b.2.1 hb).1
  have eal : ∀ i, (m_all (m_end S)).count i = (((m_Q S).filter (fun q => q.2.2)).map (fun q => q.1)).count i + (m_X' S).count i := fun i => by
    have e : m_all (m_end S) = (m_again S).map (fun a => a.1) := rfl
    rw [e, again_X hbs, List.count_append, held_m]
  have eold : ∀ i, (m_all S).count i = ((m_Q S).map (fun q => q.1)).count i + (m_X S).count i := fun i => by rw [all_QX, List.count_append]
  have ewe : ∀ i, (m_end S).2.2.2.1.2.2 i = if m_kd S (m_fst S) = 3 ∧ m_fst S = i then true else S.2.2.2.1.2.2 i := fun i => by
    show (if m_kd S (m_fst S) = 3 then ub S.2.2.2.1.2.2 (m_fst S) else S.2.2.2.1.2.2) i = _
    by_cases q : m_kd S (m_fst S) = 3
    · rw [if_pos q]
      unfold ub
      by_cases z : i = m_fst S
      · rw [if_pos z, if_pos ⟨q, z.symm⟩]
      · rw [if_neg z, if_neg (fun y => z y.2.symm)]
    · rw [if_neg q, if_neg (fun y => q y.1)]
  have ecn : ∀ i, p_cnt (m_end S).2.2.2.2.2.2 i = p_cnt S.2.2.2.2.2.2 i + ((m_Q S).map (fun q => q.1)).count i := fun i => by
    show p_cnt (S.2.2.2.2.2.2 ++ [m_pg S]) i = _
    rw [pcnt_ap, pg_Q1]
  have esm : ∀ i, p_sum (m_end S).2.2.2.2.2.2 i = p_sum S.2.2.2.2.2.2 i + ((m_Q S).map (fun q => if q.1 = i then q.2.1.toInt else 0)).sum := fun i => by
    show p_sum (S.2.2.2.2.2.2 ++ [m_pg S]) i = _
    rw [psum_ap, pg_Q2]
  have elf : ∀ i, (m_end S).2.2.2.1.2.1 i = match (m_Q S).find? (fun q => q.1 == i) with | some q => S.2.2.2.1.2.1 i - q.2.1 | none => S.2.2.2.1.2.1 i := fun i => rfl
  refine ⟨a, ?_, ⟨?_, ?_, fun q hq => ?_⟩, ⟨fun i hi => ?_, fun i hi k => ?_, fun i hi k => ?_⟩, ⟨?_, ?_, ?_, fun q hq => ?_⟩⟩
  · exact n_bg a.2.2.2.1 a.2.2.2.2
  · intro i hk
    rw [elf]
    rcases q_one (m_Q S) i (by have := hQ i; omega) with ⟨-, z, -⟩ | ⟨q, q1, q2, -, z, -⟩
    · rw [z]; exact l.1 i hk
    · rw [z]
      subst q2
      have := ((l.2.2 q (Q_mem q1)).1 hk).1
      have e0 := l.1 q.1 hk
      show S.2.2.2.1.2.1 q.1 - q.2.1 = 0
      rw [this, e0]; rfl
  · intro i hk
    rw [elf]
    have r := l.2.1 i hk
    have r4 := ((a.2.2.1 i).2.2.2.2.2 hk).2.2.1
    rcases q_one (m_Q S) i (by have := hQ i; omega) with ⟨-, z, -⟩ | ⟨q, q1, q2, -, z, -⟩
    · rw [z]; exact r
    · rw [z]
      subst q2
      have := (l.2.2 q (Q_mem q1)).2 hk
      show 0 ≤ (S.2.2.2.1.2.1 q.1 - q.2.1).toInt ∧ (S.2.2.2.1.2.1 q.1 - q.2.1).toInt ≤ (S.1.2 q.1).2.2.1.toInt
      rw [i32_sub (by omega)]
      omega
  · cases hq
  · obtain ⟨x1, x2, x3⟩ := c1 i hi
    have e := eold i
    rw [x1] at e
    have hx := X_cnt hne i
    have n3 : ¬ (m_kd S (m_fst S) = 3 ∧ m_fst S = i) := fun q => by rw [if_pos q] at hx; omega
    rw [if_neg n3] at hx
    refine ⟨?_, ?_, ?_⟩
    · rw [eal]
      rcases q_one (m_Q S) i (by omega) with ⟨-, -, z, -⟩ | ⟨q, -, -, z, -⟩ <;> omega
    · rw [ecn]; omega
    · rw [ewe, if_neg n3]; exact x3
  · have x := c2 i hi k
    have hx := X_cnt hne i
    rw [eold i] at x
    rw [ecn, eal, ewe]
    have hh : (((m_Q S).filter (fun q => q.2.2)).map (fun q => q.1)).count i = 0 := by
      rcases q_one (m_Q S) i (by have := hQ i; omega) with ⟨-, -, z, -⟩ | ⟨q, q1, q2, -, -, z, -⟩
      · exact z
      · rw [z, ((l.2.2 q (Q_mem q1)).1 (by rw [q2]; exact k)).2]; rfl
    rw [hh]
    by_cases n3 : m_kd S (m_fst S) = 3 ∧ m_fst S = i
    · rw [if_pos n3] at hx ⊢
      by_cases w : S.2.2.2.1.2.2 i = true
      · rw [if_pos w] at x; omega
      · rw [if_neg w] at x; simp; omega
    · rw [if_neg n3] at hx ⊢; omega
  · obtain ⟨x1, x2, x3⟩ := c3 i hi k
    have hx := X_cnt hne i
    have n3 : ¬ (m_kd S (m_fst S) = 3 ∧ m_fst S = i) := fun q => by
      have k' : m_kd S i = 4 := k
      rw [← q.2] at k'
      omega
    rw [if_neg n3] at hx
    have hr := eold i
    rw [x2] at hr
    rw [esm, eal, ewe, if_neg n3, elf]
    have r4 := ((a.2.2.1 i).2.2.2.2.2 k).2.2.1
    have rl := l.2.1 i k
    rcases q_one (m_Q S) i (by have := hQ i; omega) with ⟨z1, z2, z3, z4⟩ | ⟨q, q1, q2, z1, z2, z3, z4⟩
    · rw [z2, z3, z4]
      dsimp only
      refine ⟨x1, by omega, ?_⟩
      show _ + _ + (S.2.2.2.1.2.1 i).toInt = (S.1.2 i).2.2.1.toInt
      omega
    · rw [z2, z3, z4]
      subst q2
      have hqq := (l.2.2 q (Q_mem q1)).2 k
      have es : (S.2.2.2.1.2.1 q.1 - q.2.1).toInt = (S.2.2.2.1.2.1 q.1).toInt - q.2.1.toInt := i32_sub (by omega)
      dsimp only
      rw [es]
      have hQi := hQ q.1
      refine ⟨x1, ?_, ?_⟩
      · have : (m_X' S).count q.1 = 0 := by omega
        rw [this]
        cases hov : q.2.2 with
        | true => have := hqq.2.2.mp hov; rw [if_pos rfl, if_pos (by omega)]
        | false =>
          have : ¬ q.2.1.toInt < (S.2.2.2.1.2.1 q.1).toInt := fun y => by rw [hqq.2.2.mpr y] at hov; cases hov
          rw [if_neg (by simp), if_neg (by omega)]
      · show _ + _ + _ = (S.1.2 q.1).2.2.1.toInt
        omega
  · intro q; cases q
  · intro q; cases q
  · show (S.2.2.2.2.2.2 ++ [m_pg S]).length ≤ 60
    rw [List.length_append]; simp; omega
  · have hq' : q ∈ S.2.2.2.2.2.2 ++ [m_pg S] := hq
    rcases List.mem_append.mp hq' with z | z
    · exact b.2.2.2 q z
    · rw [List.mem_singleton] at z
      rw [z]
      unfold m_pg m_Q
      dsimp only
      rw [List.length_map, List.length_take]
      omega
