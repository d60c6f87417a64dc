/-! THE LAW: the class's calls, over both -/
section
variable {B : Nat} {ad : Nat → Nat} {V : List Value} {b it : Nat} {S : MS} {A M : Nat → Nat} {th : Int32} {y : Int64} {σ : xW} {K : xK}
theorem j_add {t : It} (j : JJ B ad V b it S S A M th y σ) (hit : it < 600) (ok : Bool) (ht : ok = true → itok S.2.1.1 t) (hm : ¬ (ok = true ∧ S.1.1 < 400) → JJ B ad V b (it + 1) S S A M th y σ → K (some (.int (a_item S ok))) σ) (hn : ok = true → S.1.1 < 400 → ∀ A' σ', A' 0 = A 0 → JJ B ad V b (it + 1) (m_add S t) S A' M th y σ' → K (some (.int (a_item S ok))) σ') :
    (¬ (ok = true ∧ S.1.1 < 400) → K (some (.int (a_item S ok))) σ) ∧ (∀ A', ainj A' → (∀ c, B ≤ A' c) → A' (100 + S.1.1) = σ.2.1 → A' 0 = A 0 → (∀ c, us S.1.1 S.2.1.1 S.2.2.2.2.2.2.length c → A' c = A c) → (∀ ni nc np, (∀ c, us ni nc np c ↔ us S.1.1 S.2.1.1 S.2.2.2.2.2.2.length c ∨ c = 100 + S.1.1) → adr B (σ.2.1 + 1) A' ni nc np) → ok = true ∧ S.1.1 < 400 → ∀ w', RC w' ad A' (m_add S t) → frS A' S σ.2.1 σ.1 w' → K (some (.int (nI S.1.1))) (w', σ.2.1 + 1, σ.2.2 + 13)) := by
  refine ⟨fun hc => hm hc (js j hit), fun A' a1 a2 a3 a5 a6 a7 hok w' hw hf => ?_⟩
  have hans : a_item S ok = nI S.1.1 := by
    unfold a_item a_add
    rw [hok.1, if_pos rfl, if_neg (by omega)]
  have hmm : m_add S t = ((S.1.1 + 1, fun i => if i = S.1.1 then t else S.1.2 i), S.2.1, S.2.2.1, (S.2.2.2.1.1 ++ [S.1.1], (fun i => if i = S.1.1 then i_lf t else S.2.2.2.1.2.1 i), S.2.2.2.1.2.2), S.2.2.2.2) := by
    unfold m_add; rw [if_neg (by omega)]
  have e1 : (m_add S t).1.1 = S.1.1 + 1 := by rw [hmm]
  have e2 : (m_add S t).2.1 = S.2.1 := by rw [hmm]
  have e3 : (m_add S t).2.2.2.2.2.2 = S.2.2.2.2.2.2 := by rw [hmm]
  have hni := j.1.1.1
  have hus : ∀ c, us (m_add S t).1.1 (m_add S t).2.1.1 (m_add S t).2.2.2.2.2.2.length c ↔ us S.1.1 S.2.1.1 S.2.2.2.2.2.2.length c ∨ c = 100 + S.1.1 := fun c => by
    rw [e1, e2, e3]
    unfold us
    omega
  have := hn hok.1 hok.2 A' (w', σ.2.1 + 1, σ.2.2 + 13) a5 (jc j hit (iv_add j.1 (ht hok.1)) hw (a7 _ _ _ hus) (fun c hc => ?_) (fun q h1 h2 => hf q h1 fun c hc => by rw [a6 c hc]; exact h2 c hc) (Nat.le_succ _) (by rw [e3]; omega) (by rw [e3]; omega))
  · rw [hans] at this; exact this
  · rcases (hus c).mp hc with z | z
    · exact Or.inl ⟨z, a6 c z⟩
    · exact Or.inr (by rw [z, a3]; exact Nat.le_refl _)
theorem item_f {t : It} {ok : Bool} (h : ¬ (ok = true ∧ S.1.1 < 400)) (hi : iv S) : m_item S ok t = S := by
  have := hi.1.1
  unfold m_item m_add
  cases ok with
  | false => rfl
  | true =>
    rw [if_pos rfl, if_pos]
    have : ¬ S.1.1 < 400 := fun z => h ⟨rfl, z⟩
    omega
end
