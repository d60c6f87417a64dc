/-! THE MODEL'S INVARIANT: ranges -/
def itok (nc : Nat) (t : It) : Prop := t.1 < 6 ∧ (t.1 = 0 → 0 ≤ t.2.1.toInt ∧ t.2.1.toInt ≤ 1000000 ∧ 0 ≤ t.2.2.1.toInt ∧ t.2.2.1.toInt ≤ 1000000) ∧ (t.1 = 1 → -1000000 ≤ t.2.1.toInt ∧ t.2.1.toInt ≤ 1000000 ∧ 0 ≤ t.2.2.1.toInt ∧ t.2.2.1.toInt ≤ 1000000 ∧ (∃ k, k < 4 ∧ t.2.2.2.1 = nI k) ∧ 0 ≤ t.2.2.2.2.toInt ∧ t.2.2.2.2.toInt ≤ 1000000) ∧ (t.1 = 2 → -1000000 ≤ t.2.1.toInt ∧ t.2.1.toInt ≤ 1000000) ∧ (t.1 = 3 → -10000 ≤ t.2.1.toInt ∧ t.2.1.toInt ≤ 10000) ∧ (t.1 = 4 → (∃ c, c < nc ∧ t.2.1 = nI c) ∧ 1 ≤ t.2.2.1.toInt ∧ t.2.2.1.toInt ≤ 1000000 ∧ (t.2.2.2.1 = 0 ∨ t.2.2.2.1 = 1))
def ckok (c : Int32 × Int32 × Int32 × Int32) : Prop := (0 ≤ c.1.toInt ∧ c.1.toInt ≤ 10000000) ∧ (0 ≤ c.2.1.toInt ∧ c.2.1.toInt ≤ 2000) ∧ (0 ≤ c.2.2.1.toInt ∧ c.2.2.1.toInt ≤ 10000) ∧ (0 ≤ c.2.2.2.toInt ∧ c.2.2.2.toInt ≤ 10000)
def tok (t : MT) : Prop := (0 ≤ t.1.toInt ∧ t.1.toInt ≤ 10000000) ∧ (0 ≤ t.2.1.toInt ∧ t.2.1.toInt ≤ 10000000) ∧ (0 ≤ t.2.2.toInt ∧ t.2.2.toInt ≤ 10000000)
/-- numbers of a page with n items -/
def nmok (n : Nat) (cs : Nat → Int32 × Int32 × Int32 × Int32) (st : Nat → Int64) (ins : Int64) : Prop := (-(20000000 * n : Int) ≤ (st 0).toInt ∧ (st 0).toInt ≤ 20000000 * n) ∧ (0 ≤ (st 2).toInt ∧ (st 2).toInt ≤ 1000000) ∧ (-(3000000 * n : Int) ≤ (st 1).toInt ∧ (st 1).toInt ≤ 10000000) ∧ (∀ k, k < 4 → 0 ≤ (st (3 + k)).toInt ∧ (st (3 + k)).toInt ≤ 1000000 * n) ∧ (0 ≤ (st 7).toInt ∧ (st 7).toInt ≤ 1000000 * n) ∧ (∀ c, c < 4 → 0 ≤ (st (8 + c)).toInt ∧ (st (8 + c)).toInt ≤ (cs c).1.toInt) ∧ (0 ≤ ins.toInt ∧ ins.toInt ≤ 10000 * n)
theorem k64 (x : Int64) {y : Int64} (h : x.toInt = y.toInt) : x = y := Int64.toInt_inj.mp h
theorem k1000 : (1000 : Int64).toInt = 1000 := by decide
theorem ups_eq {st : Nat → Int64} {k : Nat} {v : Int64} : ups st k v k = v := if_pos rfl
theorem ups_ne {st : Nat → Int64} {k j : Nat} {v : Int64} (h : j ≠ k) : ups st k v j = st j := if_neg h
theorem lessL_le (a b : Int64) : (lessL a b).toInt ≤ a.toInt ∧ (lessL a b).toInt ≤ b.toInt := by
  unfold lessL
  split <;> omega
/-- what of an insert stands: in range; and it is whole just where it stands -/
theorem ip_rng {n : Nat} {cs : Nat → Int32 × Int32 × Int32 × Int32} {st : Nat → Int64} {ins : Int64} {c : Nat} {h : Int32} {g : Int64} {cu : Bool} (hn : n ≤ 400) (hs : nmok n cs st ins) (hc : c < 4) (hk : ckok (cs c)) (h1 : 1 ≤ h.toInt) (h2 : h.toInt ≤ 1000000) :
    0 ≤ (i_part st g c h (cs c).2.1 (cs c).1 cu).toInt ∧ (i_part st g c h (cs c).2.1 (cs c).1 cu).toInt ≤ h.toInt ∧ (st (8 + c)).toInt + (i_part st g c h (cs c).2.1 (cs c).1 cu).toInt ≤ (cs c).1.toInt ∧ (i_stands st g c h (cs c).2.1 (cs c).1 = true → (i_part st g c h (cs c).2.1 (cs c).1 cu).toInt = h.toInt) ∧ (i_stands st g c h (cs c).2.1 (cs c).1 = false → (i_part st g c h (cs c).2.1 (cs c).1 cu).toInt < h.toInt) := by
  obtain ⟨-, -, -, -, -, h8, -⟩ := hs
  obtain ⟨⟨k1, k2⟩, -⟩ := hk
  have h8c := h8 c hc
  have e1 : (st (8 + c) + h.toInt64).toInt = (st (8 + c)).toInt + h.toInt := by rw [i64_add (by rw [i32_64]; omega), i32_64]
  have e2 : ((cs c).1.toInt64 - st (8 + c)).toInt = (cs c).1.toInt - (st (8 + c)).toInt := by rw [i64_sub (by rw [i32_64]; omega), i32_64]
  have c1 : (1 : Int64).toInt = 1 := by decide
  have e3 : (h.toInt64 - 1).toInt = h.toInt - 1 := by rw [i64_sub (by rw [i32_64, c1]; omega), i32_64, c1]
  unfold i_part
  cases hst : i_stands st g c h (cs c).2.1 (cs c).1 with
  | true =>
    have := hst
    unfold i_stands at this
    have h9 := (of_decide_eq_true this).2
    rw [e1, i32_64] at h9
    simp only [↓reduceIte, i32_64]
    exact ⟨by omega, by omega, by omega, fun _ => trivial, fun q => by simp at q⟩
  | false =>
    simp only [Bool.false_eq_true, ↓reduceIte]
    have hg : 0 < (i_goes st g c h (cs c).2.1 (cs c).1).toInt → (i_goes st g c h (cs c).2.1 (cs c).1).toInt ≤ h.toInt - 1 ∧ (i_goes st g c h (cs c).2.1 (cs c).1).toInt ≤ (cs c).1.toInt - (st (8 + c)).toInt := by
      intro _
      have l1 := lessL_le (h.toInt64 - 1) ((cs c).1.toInt64 - st (8 + c))
      rw [e2, e3] at l1
      unfold i_goes
      split
      · exact l1
      · have l2 := lessL_le (lessL (h.toInt64 - 1) ((cs c).1.toInt64 - st (8 + c))) (i_free st g * 1000 / (cs c).2.1.toInt64)
        omega
    split
    · rename_i q
      have := hg q.2
      have := q.2
      exact ⟨by omega, by omega, by omega, fun q => by simp at q, fun _ => by omega⟩
    · exact ⟨by decide, by rw [c0]; omega, by rw [c0]; omega, fun q => by simp at q, fun _ => by rw [c0]; omega⟩
