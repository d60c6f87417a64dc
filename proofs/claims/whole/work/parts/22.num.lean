/-! NUMBERS: badness, the class's and the reference's -/
theorem i64_div {a b : Int64} (ha : 0 ≤ a.toInt) (hb : 0 < b.toInt) : (a / b).toInt = a.toInt / b.toInt := by
  have h := Int64.toInt_div_of_ne_left a b (by intro h; rw [h] at ha; exact absurd ha (by decide))
  rw [h, Int.tdiv_eq_ediv_of_nonneg ha]
theorem i64_ne0 {a : Int64} (h : 0 < a.toInt) : ¬ a = 0 := by
  intro q
  rw [q] at h
  exact absurd h (by decide)
def bd_r (t s : Int64) : Int64 := if t.toInt ≤ 7230584 then 297 * t / s else if 1663497 ≤ s.toInt then t / (s / 297) else t
def bd (t s : Int64) : Int64 := if t = 0 then 0 else if s = 0 then 10000 else if 1290 < (bd_r t s).toInt then 10000 else (bd_r t s * bd_r t s * bd_r t s + 131072) / 262144
theorem s297 {s : Int64} (h : 1663497 ≤ s.toInt) : ¬ s / 297 = 0 := by
  refine i64_ne0 ?_
  rw [i64_div (by omega) (by decide)]
  have : (297 : Int64).toInt = 297 := by decide
  rw [this]
  omega
theorem c72 : (7230584 : Int64).toInt = 7230584 := by decide
theorem c166 : (1663497 : Int64).toInt = 1663497 := by decide
theorem c129 : (1290 : Int64).toInt = 1290 := by decide
theorem c0 : (0 : Int64).toInt = 0 := by decide
theorem s_bad {B : Nat} {ad : Nat → Nat} {t s : Int64} {σ : xW} {K : xK} (h : K (some (.long (bd t s))) σ) : x_cl (eX8_bad B ad) [.long t, .long s] σ K := by
  refine x_ev_of (by simp [x_sl, Value.category]) ?_
  show wX8_bad B ad K 0 [.long t, .retAddr 0, .long s, .retAddr 0, .retAddr 0, .retAddr 0] [] σ
  simp only [eX8_bad_0, eX8_bad_1, eX8_bad_2, eX8_bad_3, eX8_bad_6, eX8_bad_7, eX8_bad_8, eX8_bad_9, eX8_bad_10, eX8_bad_11, eX8_bad_14, eX8_bad_17, eX8_bad_18, eX8_bad_19, eX8_bad_22, eX8_bad_23, eX8_bad_26, eX8_bad_29, eX8_bad_30, eX8_bad_31, eX8_bad_32, eX8_bad_33, eX8_bad_36, eX8_bad_37, eX8_bad_40, eX8_bad_41, eX8_bad_44, eX8_bad_45, eX8_bad_46, eX8_bad_49, eX8_bad_50, eX8_bad_51, eX8_bad_54, eX8_bad_55, eX8_bad_57, eX8_bad_59, eX8_bad_62, eX8_bad_63, eX8_bad_66, eX8_bad_69, eX8_bad_72, eX8_bad_74, eX8_bad_76, eX8_bad_77, eX8_bad_79, eX8_bad_80, eX8_bad_83, eX8_bad_84, eX8_bad_87, eX8_bad_88, List.getElem?_cons_zero, List.getElem?_cons_succ, Option.some.injEq, Value.int.injEq, Value.long.injEq, Value.ref.injEq, reduceCtorEq, exists_eq_left', exists_eq_left, exists_and_left, exists_and_right, and_assoc, and_true, true_and, true_or, or_true, x_rfv_ref, x_rfv_null, Prod.mk.injEq, List.set_cons_zero, List.set_cons_succ, List.length_cons, List.length_nil, Value.category, x_nl0, x_nl1, x_nl2, x_nl3, x_nl4, x_nl5, x_nl6, x_nl7, x_nl8, x_nl9, x_nl10, x_nl11, x_nl12, List.map_nil, List.map_cons, List.sum_nil, List.sum_cons, Option.toList_some, Option.toList_none, List.nil_append, List.cons_append, xl_lt, xl_gt, xl_eq, ↓reduceIte, Nat.reduceLT, Nat.reduceAdd, Nat.reduceLeDiff, x_up_self, x_uu, c72, c166, c129]
  simp only [x_itr]
  unfold bd at h
  have fin : ∀ r, bd_r t s = r → ¬ t = 0 → ¬ s = 0 → (1290 < r.toInt → K (some (Value.long 10000)) σ) ∧ (¬ 1290 < r.toInt → ¬ (262144 : Int64) = 0 ∧ K (some (Value.long ((r * r * r + 131072) / 262144))) σ) := by
    intro r hr h1 h2
    rw [if_neg h1, if_neg h2, hr] at h
    exact ⟨fun q => by rw [if_pos q] at h; exact h, fun q => ⟨by decide, by rw [if_neg q] at h; exact h⟩⟩
  refine ⟨fun h1 => ?_, fun h1 => ⟨fun h2 => ?_, fun h2 => ⟨fun h3 => ⟨fun h4 => ?_, fun h4 => ?_⟩, fun h3 => ?_⟩⟩⟩
  · rw [if_pos h1] at h; exact h
  · rw [if_neg h1, if_pos h2] at h; exact h
  · exact fin t (by unfold bd_r; rw [if_neg (by omega), if_neg (by omega)]) h1 h2
  · exact ⟨by decide, s297 (by omega), fin _ (by unfold bd_r; rw [if_neg (by omega), if_pos (by omega)]) h1 h2⟩
  · exact ⟨h2, fin _ (by unfold bd_r; rw [if_pos (by omega)]) h1 h2⟩
theorem s_badnessOf {B : Nat} {ad : Nat → Nat} {t s : Int64} {σ : xW} {K : xK} (hs : 0 ≤ s.toInt) (h : K (some (.int (bd t s).toInt32)) σ) : x_cl (eX7_badnessOf B ad) [.long t, .long s] σ K := by
  refine x_ev_of (by simp [x_sl, Value.category]) ?_
  show wX7_badnessOf B ad K 0 [.long t, .retAddr 0, .long s, .retAddr 0, .retAddr 0, .retAddr 0] [] σ
  simp only [eX7_badnessOf_0, eX7_badnessOf_1, eX7_badnessOf_2, eX7_badnessOf_3, eX7_badnessOf_6, eX7_badnessOf_7, eX7_badnessOf_8, eX7_badnessOf_9, eX7_badnessOf_10, eX7_badnessOf_11, eX7_badnessOf_14, eX7_badnessOf_17, eX7_badnessOf_18, eX7_badnessOf_19, eX7_badnessOf_21, eX7_badnessOf_22, eX7_badnessOf_25, eX7_badnessOf_26, eX7_badnessOf_29, eX7_badnessOf_32, eX7_badnessOf_33, eX7_badnessOf_34, eX7_badnessOf_35, eX7_badnessOf_36, eX7_badnessOf_38, eX7_badnessOf_41, eX7_badnessOf_42, eX7_badnessOf_45, eX7_badnessOf_46, eX7_badnessOf_49, eX7_badnessOf_50, eX7_badnessOf_51, eX7_badnessOf_54, eX7_badnessOf_55, eX7_badnessOf_56, eX7_badnessOf_58, eX7_badnessOf_60, eX7_badnessOf_63, eX7_badnessOf_64, eX7_badnessOf_67, eX7_badnessOf_70, eX7_badnessOf_73, eX7_badnessOf_75, eX7_badnessOf_77, eX7_badnessOf_78, eX7_badnessOf_80, eX7_badnessOf_81, eX7_badnessOf_84, eX7_badnessOf_85, eX7_badnessOf_88, eX7_badnessOf_89, eX7_badnessOf_90, List.getElem?_cons_zero, List.getElem?_cons_succ, Option.some.injEq, Value.int.injEq, Value.long.injEq, Value.ref.injEq, reduceCtorEq, exists_eq_left', exists_eq_left, exists_and_left, exists_and_right, and_assoc, and_true, true_and, true_or, or_true, x_rfv_ref, x_rfv_null, Prod.mk.injEq, List.set_cons_zero, List.set_cons_succ, List.length_cons, List.length_nil, Value.category, x_nl0, x_nl1, x_nl2, x_nl3, x_nl4, x_nl5, x_nl6, x_nl7, x_nl8, x_nl9, x_nl10, x_nl11, x_nl12, List.map_nil, List.map_cons, List.sum_nil, List.sum_cons, Option.toList_some, Option.toList_none, List.nil_append, List.cons_append, xl_lt, xl_gt, xl_eq, ↓reduceIte, Nat.reduceLT, Nat.reduceAdd, Nat.reduceLeDiff, x_up_self, x_uu, c72, c166, c129, c0]
  simp only [x_itr]
  unfold bd at h
  have fin : ∀ r, bd_r t s = r → ¬ t = 0 → ¬ s = 0 → (1290 < r.toInt → K (some (Value.int 10000)) σ) ∧ (¬ 1290 < r.toInt → ¬ (262144 : Int64) = 0 ∧ K (some (Value.int ((r * r * r + 131072) / 262144).toInt32)) σ) := by
    intro r hr h1 h2
    rw [if_neg h1, if_neg h2, hr] at h
    exact ⟨fun q => by rw [if_pos q] at h; exact h, fun q => ⟨by decide, by rw [if_neg q] at h; exact h⟩⟩
  refine ⟨fun h1 => ?_, fun h1 => ⟨fun h2 => ⟨fun h3 => ⟨fun h4 => ?_, fun h4 => ?_⟩, fun h3 => ?_⟩, fun h2 => ?_⟩⟩
  · rw [if_pos h1] at h; exact h
  · exact fin t (by unfold bd_r; rw [if_neg (by omega), if_neg (by omega)]) h1 (i64_ne0 h2)
  · exact ⟨by decide, s297 (by omega), fin _ (by unfold bd_r; rw [if_neg (by omega), if_pos (by omega)]) h1 (i64_ne0 h2)⟩
  · exact ⟨i64_ne0 h2, fin _ (by unfold bd_r; rw [if_pos (by omega)]) h1 (i64_ne0 h2)⟩
  · have h9 : s = 0 := Int64.toInt_inj.mp (by rw [c0]; omega)
    rw [if_neg h1, if_pos h9] at h; exact h
theorem s_byFactor {B : Nat} {ad : Nat → Nat} {a : Nat} {n0 n1 f n3 n4 : Int32} {x : Int64} {σ : xW} {K : xK} (ha : σ.1 a = some (2, [.int n0, .int n1, .int f, .int n3, .int n4])) (h : K (some (.long (x * f.toInt64 / 1000))) σ) : x_cl (eX1_byFactor B ad) [.ref a, .long x] σ K := by
  refine x_ev_of (by simp [x_sl, Value.category]) ?_
  show wX1_byFactor B ad K 0 [.ref a, .long x, .retAddr 0] [] σ
  simp only [eX1_byFactor_0, eX1_byFactor_1, eX1_byFactor_2, eX1_byFactor_5, eX1_byFactor_6, eX1_byFactor_7, eX1_byFactor_10, eX1_byFactor_11, List.getElem?_cons_zero, List.getElem?_cons_succ, Option.some.injEq, Value.int.injEq, Value.long.injEq, Value.ref.injEq, reduceCtorEq, exists_eq_left', exists_eq_left, exists_and_left, exists_and_right, and_assoc, and_true, true_and, true_or, or_true, x_rfv_ref, x_rfv_null, Prod.mk.injEq, List.set_cons_zero, List.set_cons_succ, List.length_cons, List.length_nil, Value.category, x_nl0, x_nl1, x_nl2, x_nl3, x_nl4, x_nl5, x_nl6, x_nl7, x_nl8, x_nl9, x_nl10, x_nl11, x_nl12, List.map_nil, List.map_cons, List.sum_nil, List.sum_cons, Option.toList_some, Option.toList_none, List.nil_append, List.cons_append, xl_lt, xl_gt, xl_eq, ↓reduceIte, Nat.reduceLT, Nat.reduceAdd, Nat.reduceLeDiff, x_up_self, x_uu, ha]
  exact ⟨by decide, h⟩
