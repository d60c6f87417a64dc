/-! LEAVES: methods of numbers alone -/
def z01 (P : Prop) [Decidable P] : Int32 := if P then 1 else 0
theorem s_within {B : Nat} {ad : Nat → Nat} {a b c : Int32} {σ : xW} {K : xK} (h : K (some (.int (z01 (b.toInt ≤ a.toInt ∧ a.toInt ≤ c.toInt)))) σ) : x_cl (eX7_within B ad) [.int a, .int b, .int c] σ K := by
  refine x_ev_of (by simp [x_sl, Value.category]) ?_
  show wX7_within B ad K 0 [.int a, .int b, .int c] [] σ
  simp only [eX7_within_0, eX7_within_1, eX7_within_2, eX7_within_5, eX7_within_6, eX7_within_7, eX7_within_10, eX7_within_11, eX7_within_14, eX7_within_15, List.getElem?_cons_zero, List.getElem?_cons_succ, Option.some.injEq, Value.int.injEq, Value.long.injEq, Value.ref.injEq, reduceCtorEq, exists_eq_left', exists_eq_left, exists_and_left, exists_and_right, and_assoc, and_true, true_and, true_or, or_true, x_rfv_ref, x_rfv_null, Prod.mk.injEq, List.set_cons_zero, List.set_cons_succ, List.length_cons, List.length_nil, Value.category, x_nl0, x_nl1, x_nl2, x_nl3, x_nl4, x_nl5, x_nl6, x_nl7, x_nl8, x_nl9, x_nl10, x_nl11, x_nl12, List.map_nil, List.map_cons, List.sum_nil, List.sum_cons, Option.toList_some, Option.toList_none, List.nil_append, List.cons_append, xl_lt, xl_gt, xl_eq, ↓reduceIte, Nat.reduceLT, Nat.reduceAdd, Nat.reduceLeDiff, x_up_self, x_uu]
  simp only [x_itr]
  unfold z01 at h
  refine ⟨fun h1 => ?_, fun h1 => ⟨fun h2 => ?_, fun h2 => ?_⟩⟩
  · rw [if_neg (by omega)] at h; exact h
  · rw [if_neg (by omega)] at h; exact h
  · rw [if_pos (by omega)] at h; exact h
theorem s_in {B : Nat} {ad : Nat → Nat} {a b c : Int64} {σ : xW} {K : xK} (h : K (some (.int (z01 (b.toInt ≤ a.toInt ∧ a.toInt ≤ c.toInt)))) σ) : x_cl (eX8_in B ad) [.long a, .long b, .long c] σ K := by
  refine x_ev_of (by simp [x_sl, Value.category]) ?_
  show wX8_in B ad K 0 [.long a, .retAddr 0, .long b, .retAddr 0, .long c, .retAddr 0] [] σ
  simp only [eX8_in_0, eX8_in_1, eX8_in_2, eX8_in_3, eX8_in_6, eX8_in_7, eX8_in_9, eX8_in_10, eX8_in_13, eX8_in_14, eX8_in_17, eX8_in_18, List.getElem?_cons_zero, List.getElem?_cons_succ, Option.some.injEq, Value.int.injEq, Value.long.injEq, Value.ref.injEq, reduceCtorEq, exists_eq_left', exists_eq_left, exists_and_left, exists_and_right, and_assoc, and_true, true_and, true_or, or_true, x_rfv_ref, x_rfv_null, Prod.mk.injEq, List.set_cons_zero, List.set_cons_succ, List.length_cons, List.length_nil, Value.category, x_nl0, x_nl1, x_nl2, x_nl3, x_nl4, x_nl5, x_nl6, x_nl7, x_nl8, x_nl9, x_nl10, x_nl11, x_nl12, List.map_nil, List.map_cons, List.sum_nil, List.sum_cons, Option.toList_some, Option.toList_none, List.nil_append, List.cons_append, xl_lt, xl_gt, xl_eq, ↓reduceIte, Nat.reduceLT, Nat.reduceAdd, Nat.reduceLeDiff, x_up_self, x_uu]
  simp only [x_itr]
  unfold z01 at h
  refine ⟨fun h1 => ?_, fun h1 => ⟨fun h2 => ?_, fun h2 => ?_⟩⟩
  · rw [if_neg (by omega)] at h; exact h
  · rw [if_neg (by omega)] at h; exact h
  · rw [if_pos (by omega)] at h; exact h
theorem s_less {B : Nat} {ad : Nat → Nat} {a b : Int64} {σ : xW} {K : xK} (h : K (some (.long (if a.toInt < b.toInt then a else b))) σ) : x_cl (eX8_less B ad) [.long a, .long b] σ K := by
  refine x_ev_of (by simp [x_sl, Value.category]) ?_
  show wX8_less B ad K 0 [.long a, .retAddr 0, .long b, .retAddr 0] [] σ
  simp only [eX8_less_0, eX8_less_1, eX8_less_2, eX8_less_3, eX8_less_6, eX8_less_7, eX8_less_10, eX8_less_11, List.getElem?_cons_zero, List.getElem?_cons_succ, Option.some.injEq, Value.int.injEq, Value.long.injEq, Value.ref.injEq, reduceCtorEq, exists_eq_left', exists_eq_left, exists_and_left, exists_and_right, and_assoc, and_true, true_and, true_or, or_true, x_rfv_ref, x_rfv_null, Prod.mk.injEq, List.set_cons_zero, List.set_cons_succ, List.length_cons, List.length_nil, Value.category, x_nl0, x_nl1, x_nl2, x_nl3, x_nl4, x_nl5, x_nl6, x_nl7, x_nl8, x_nl9, x_nl10, x_nl11, x_nl12, List.map_nil, List.map_cons, List.sum_nil, List.sum_cons, Option.toList_some, Option.toList_none, List.nil_append, List.cons_append, xl_lt, xl_gt, xl_eq, ↓reduceIte, Nat.reduceLT, Nat.reduceAdd, Nat.reduceLeDiff, x_up_self, x_uu]
  simp only [x_itr]
  refine ⟨fun h1 => ?_, fun h1 => ?_⟩
  · rw [if_pos h1] at h; exact h
  · rw [if_neg h1] at h; exact h
