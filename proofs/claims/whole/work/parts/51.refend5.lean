/-! THE REFERENCE: end, its model -/
def m_vl (S : MS) (i : Nat) : Int32 := (S.1.2 i).2.1
def m_Q (S : MS) : List (Nat × Int32 × Bool) := S.2.2.2.2.1.1.take S.2.2.2.2.2.1.2.1
def m_skips (S : MS) : Nat := if S.2.2.2.2.2.1.2.1 = S.2.2.2.2.1.1.length ∧ m_kd S (m_hd S) = 3 then 1 else 0
def m_again (S : MS) : List (Nat × Int32) := m_held S.2.2.2.1.2.1 (m_Q S) ++ (m_bk3 (m_kd S) S.2.2.2.2.1.1 S.2.2.2.2.2.1.2.1).map (fun q => (q.1, S.2.2.2.1.2.1 q.1)) ++ (S.2.2.2.1.1.drop (m_skips S)).map (fun i => (i, S.2.2.2.1.2.1 i))
def m_lf (lf : Nat → Int32) (Q : List (Nat × Int32 × Bool)) : Nat → Int32 := fun i => match Q.find? (fun q => q.1 == i) with
  | some q => lf i - q.2.1
  | none => lf i
def m_pg (S : MS) : PG := ((m_Q S).map (fun q => (q.1, q.2.1)), S.2.2.2.2.2.1.2.2.2.2, S.2.2.2.2.2.1.2.2.1, S.2.2.2.2.2.1.2.2.2.1, pg_bot S.2.2.2.2.2.2, (m_mkf (m_kd S) (m_vl S) (m_Q S) (pg_bot S.2.2.2.2.2.2, pg_bot S.2.2.2.2.2.2, false)).1, (m_mkf (m_kd S) (m_vl S) (m_Q S) (pg_bot S.2.2.2.2.2.2, pg_bot S.2.2.2.2.2.2, false)).2.1)
/-- the first of what waits goes if it is a penalty -/
def m_fst (S : MS) : Nat := ((S.2.2.2.2.1.1.drop S.2.2.2.2.2.1.2.1).map (fun q => q.1) ++ S.2.2.2.1.1).getD 0 0
def m_end (S : MS) : MS := (S.1, S.2.1, S.2.2.1, ((m_again S).map (fun a => a.1), m_lf S.2.2.2.1.2.1 (m_Q S), if m_kd S (m_fst S) = 3 then ub S.2.2.2.1.2.2 (m_fst S) else S.2.2.2.1.2.2), m_bg S.2.2.1, (false, S.2.2.2.2.2.1.2), S.2.2.2.2.2.2 ++ [m_pg S])
def mo3 (M : Nat → Nat) (thr : Int32) (S : MS) (wa pg bo : Int32) : List Value := (mobj M thr (nI S.1.1) (nI S.2.1.1) S.2.2.1.1 S.2.2.1.2.1 S.2.2.1.2.2 wa (nI S.2.2.2.2.1.1.length) (bz S.2.2.2.2.1.2.1) S.2.2.2.2.1.2.2.2.1 S.2.2.2.2.1.2.2.2.2.1 S.2.2.2.2.1.2.2.2.2.2.1 (bz S.2.2.2.2.2.1.1) (nI S.2.2.2.2.2.1.2.1) S.2.2.2.2.2.1.2.2.1 S.2.2.2.2.2.1.2.2.2.1 pg bo).2
theorem mo_3 {M : Nat → Nat} {thr : Int32} {S : MS} : mo_ M thr S = (8, mo3 M thr S (nI S.2.2.2.1.1.length) (nI S.2.2.2.2.2.2.length) (pg_bot S.2.2.2.2.2.2)) := rfl
theorem pg_ap_n {P : List PG} {q : PG} : pg_n (P ++ [q]) = pg_n P + q.1.length := by unfold pg_n; simp
theorem pg_ap_it {P : List PG} {q : PG} : pg_it (P ++ [q]) = pg_it P ++ q.1 := by unfold pg_it; simp
theorem pg_it_len : ∀ {P : List PG}, (pg_it P).length = pg_n P
  | [] => rfl
  | q :: P => by
    have := pg_it_len (P := P)
    unfold pg_it pg_n at *
    simp [List.length_flatMap] at *
theorem pg_b_all {P : List PG} : pg_b P P.length = pg_n P := by unfold pg_b; rw [List.take_length]
theorem pg_b_ap {P : List PG} {q : PG} {p : Nat} (h : p ≤ P.length) : pg_b (P ++ [q]) p = pg_b P p := by
  unfold pg_b; rw [List.take_append_of_le_length h]
theorem pg_at_ap {P : List PG} {q : PG} {p : Nat} (h : p < P.length) : pg_at (P ++ [q]) p = pg_at P p := by
  unfold pg_at; simp [List.getD, List.getElem?_append_left h]
theorem pg_at_al {P : List PG} {q : PG} : pg_at (P ++ [q]) P.length = q := by
  unfold pg_at; simp [List.getD]
theorem pg_bot_ap {P : List PG} {q : PG} : pg_bot (P ++ [q]) = q.2.2.2.2.2.2 := by unfold pg_bot; simp
theorem ga_lt {A C : List (Nat × Int32)} {j : Nat} (h : j < A.length) : (A ++ C).getD j (0, 0) = A.getD j (0, 0) := by
  simp [List.getD, List.getElem?_append_left h]
theorem ga_ge {A C : List (Nat × Int32)} {j : Nat} : (A ++ C).getD (A.length + j) (0, 0) = C.getD j (0, 0) := by
  simp only [List.getD]
  rw [List.getElem?_append_right (by omega), Nat.add_sub_cancel_left]
theorem gQ {Q : List (Nat × Int32 × Bool)} {j : Nat} (h : j < Q.length) : (Q.map (fun q => (q.1, q.2.1))).getD j (0, 0) = (on_i Q j, on_p Q j) := by
  unfold on_i on_p
  simp [List.getD, List.getElem?_eq_getElem h]
theorem on_take {l : List (Nat × Int32 × Bool)} {b j : Nat} (h : j < b) : (l.take b).getD j (0, 0, false) = l.getD j (0, 0, false) := by
  simp [List.getD, List.getElem?_take, h]
