/-! THE REFERENCE: now -/
theorem ls11 : (1 : Int32) - 1 = 0 := by decide
theorem ls21 : (2 : Int32) - 1 = 1 := by decide
theorem ls31 : (3 : Int32) - 1 = 2 := by decide
theorem ls41 : (4 : Int32) - 1 = 3 := by decide
theorem ls51 : (5 : Int32) - 1 = 4 := by decide
theorem ls61 : (6 : Int32) - 1 = 5 := by decide
theorem ls71 : (7 : Int32) - 1 = 6 := by decide
theorem ls81 : (8 : Int32) - 1 = 7 := by decide
set_option maxRecDepth 20000 in
theorem s_nowM {B : Nat} {ad M : Nat → Nat} {thr q : Int32} {S : MS} {σ : xW} {K : xK} (hM : ainj M) (hB : ∀ c, B ≤ M c) (h0 : RM σ.1 M thr S) (h : K (some (.long (m_now S q))) (x_up σ.1 (M 0) (mo_ M 0 S), σ.2)) : x_cl (eX8_now B ad) [.ref (M 0), .int q] σ K := by
  have hR := RM_thr (t := 0) hM h0
  obtain ⟨r0, -, -, rL, -, ⟨V, r1, r2, r3, -⟩, -, -⟩ := hR
  obtain ⟨⟨V16, l1, l2⟩, ⟨V17, l3, l4⟩⟩ := rL
  obtain ⟨h0, -⟩ := h0
  have e0 : ∀ q : xE, q = mo_ M 0 S → x_up σ.1 (M 0) q = x_up σ.1 (M 0) (mo_ M 0 S) := fun q hq => by rw [hq]
  refine x_ev_of (by simp [x_sl, Value.category]) ?_
  show wX8_now B ad K 0 [.ref (M 0), .int q, .retAddr 0] [] σ
  unfold mo_ mobj at h0
  simp only [eX8_now_0, eX8_now_1, eX8_now_2, List.getElem?_cons_zero, List.getElem?_cons_succ, Option.some.injEq, Value.int.injEq, Value.long.injEq, Value.ref.injEq, reduceCtorEq, exists_eq_left', exists_eq_left, exists_and_left, exists_and_right, and_assoc, and_true, true_and, true_or, or_true, x_rfv_ref, x_rfv_null, Prod.mk.injEq, List.set_cons_zero, List.set_cons_succ, List.length_cons, List.length_nil, Value.category, x_nl0, x_nl1, x_nl2, x_nl3, x_nl4, x_nl5, x_nl6, x_nl7, x_nl8, x_nl9, x_nl10, x_nl11, x_nl12, List.map_nil, List.map_cons, List.sum_nil, List.sum_cons, Option.toList_some, Option.toList_none, List.nil_append, List.cons_append, xl_lt, xl_gt, xl_eq, ↓reduceIte, Nat.reduceLT, Nat.reduceAdd, Nat.reduceLeDiff, x_up_self, x_uu, lt0, ln0, lx0, lt1, ln1, lx1, lt2, ln2, lx2, lt3, ln3, lx3, lt4, ln4, lx4, lt5, ln5, lx5, lt6, ln6, lx6, lt7, ln7, lx7, lt8, ln8, lx8, lt9, ln9, lx9, lt10, ln10, lx10, lt11, ln11, lx11, lt12, ln12, lx12, lt13, ln13, lx13, lt14, ln14, lx14, lt15, ln15, lx15, lt16, ln16, lx16, lt17, ln17, lx17, lt18, ln18, lx18, lt19, ln19, lx19, lt20, ln20, lx20, lt21, ln21, lx21, lt22, ln22, lx22, lt23, ln23, lx23, lt24, ln24, lx24, la0, la1, la2, la3, la4, la5, la6, la7, la8, la9, la10, la11, la12, lb0, lb1, lb2, lb3, lb4, lb5, lb6, lb7, lb8, lb9, lb10, lb11, lb12, lt60, lt400, lt900, ltm1, ltm2, ltm4, ltm10000, lt10000, lt1000000, ltm1000000, lt10000000, lt2000, lt100000, Int.toNat_natCast, i1ne0, i0eq0, Int.reduceLT, Int.reduceLE, Int.reduceToNat, Int.reduceNeg, not_true, not_false_iff, false_imp_iff, true_imp_iff, imp_self, implies_true, Option.isSome_some, Bool.false_eq_true, h0, hB]
  rw [e0 _ (by unfold mo_ mobj; rfl)]
  clear e0
  generalize x_up σ.1 (M 0) (mo_ M 0 S) = w1 at r0 r1 l1 l3 h ⊢
  have hwt : S.2.2.2.1.1.length ≤ 900 := apre_n l2
  unfold mo_ mobj at r0
  unfold m_now at h
  have s0 := r3 0 (by decide)
  have s1 := r3 1 (by decide)
  have s2 := r3 2 (by decide)
  have s3 := r3 3 (by decide)
  have s4 := r3 4 (by decide)
  have s5 := r3 5 (by decide)
  have s6 := r3 6 (by decide)
  have s7 := r3 7 (by decide)
  rcases ic_0_13 q with hq | rfl | rfl | rfl | rfl | rfl | rfl | rfl | rfl | rfl | rfl | rfl | rfl | rfl | rfl
  · rw [if_neg (by omega), if_neg (by omega), if_neg (by omega), if_neg (by omega), if_neg (by omega), if_neg (by omega), if_neg (by omega)] at h
    have n0 : ¬ q = 0 := by rintro rfl; exact absurd hq (by decide)
    have n1 : q.toInt < 9 ∨ 13 < q.toInt := by omega
    by_cases g1 : q.toInt < 1
    · simp only [eX8_now_0, eX8_now_1, eX8_now_2, eX8_now_5, eX8_now_6, eX8_now_9, eX8_now_10, eX8_now_13, eX8_now_14, eX8_now_15, eX8_now_16, eX8_now_17, eX8_now_20, eX8_now_21, eX8_now_23, eX8_now_26, eX8_now_27, eX8_now_30, eX8_now_31, eX8_now_32, eX8_now_33, eX8_now_34, eX8_now_35, eX8_now_36, eX8_now_39, eX8_now_42, eX8_now_43, eX8_now_46, eX8_now_47, eX8_now_48, eX8_now_84, eX8_now_85, eX8_now_88, eX8_now_91, eX8_now_92, eX8_now_95, eX8_now_98, eX8_now_101, eX8_now_102, eX8_now_103, eX8_now_106, eX8_now_107, eX8_now_108, eX8_now_111, eX8_now_112, eX8_now_113, eX8_now_114, eX8_now_117, eX8_now_118, eX8_now_121, eX8_now_122, eX8_now_123, eX8_now_124, eX8_now_127, eX8_now_130, eX8_now_131, eX8_now_132, eX8_now_135, eX8_now_136, eX8_now_139, eX8_now_140, eX8_now_141, eX8_now_142, eX8_now_145, eX8_now_146, eX8_now_147, eX8_now_150, eX8_now_49_o n1, List.getElem?_cons_zero, List.getElem?_cons_succ, Option.some.injEq, Value.int.injEq, Value.long.injEq, Value.ref.injEq, reduceCtorEq, exists_eq_left', exists_eq_left, exists_and_left, exists_and_right, and_assoc, and_true, true_and, true_or, or_true, x_rfv_ref, x_rfv_null, Prod.mk.injEq, List.set_cons_zero, List.set_cons_succ, List.length_cons, List.length_nil, Value.category, x_nl0, x_nl1, x_nl2, x_nl3, x_nl4, x_nl5, x_nl6, x_nl7, x_nl8, x_nl9, x_nl10, x_nl11, x_nl12, List.map_nil, List.map_cons, List.sum_nil, List.sum_cons, Option.toList_some, Option.toList_none, List.nil_append, List.cons_append, xl_lt, xl_gt, xl_eq, ↓reduceIte, Nat.reduceLT, Nat.reduceAdd, Nat.reduceLeDiff, x_up_self, x_uu, lt0, ln0, lx0, lt1, ln1, lx1, lt2, ln2, lx2, lt3, ln3, lx3, lt4, ln4, lx4, lt5, ln5, lx5, lt6, ln6, lx6, lt7, ln7, lx7, lt8, ln8, lx8, lt9, ln9, lx9, lt10, ln10, lx10, lt11, ln11, lx11, lt12, ln12, lx12, lt13, ln13, lx13, lt14, ln14, lx14, lt15, ln15, lx15, lt16, ln16, lx16, lt17, ln17, lx17, lt18, ln18, lx18, lt19, ln19, lx19, lt20, ln20, lx20, lt21, ln21, lx21, lt22, ln22, lx22, lt23, ln23, lx23, lt24, ln24, lx24, la0, la1, la2, la3, la4, la5, la6, la7, la8, la9, la10, la11, la12, lb0, lb1, lb2, lb3, lb4, lb5, lb6, lb7, lb8, lb9, lb10, lb11, lb12, lt60, lt400, lt900, ltm1, ltm2, ltm4, ltm10000, lt10000, lt1000000, ltm1000000, lt10000000, lt2000, lt100000, Int.toNat_natCast, i1ne0, i0eq0, Int.reduceLT, Int.reduceLE, Int.reduceToNat, Int.reduceNeg, not_true, not_false_iff, false_imp_iff, true_imp_iff, imp_self, implies_true, Option.isSome_some, Bool.false_eq_true, r0, n0, g1, ite_self, nI_k (show S.2.2.2.1.1.length < 2147483648 by omega)]
      exact h
    · have g2 : 8 < q.toInt := by omega
      simp only [eX8_now_0, eX8_now_1, eX8_now_2, eX8_now_5, eX8_now_6, eX8_now_9, eX8_now_10, eX8_now_13, eX8_now_14, eX8_now_15, eX8_now_16, eX8_now_17, eX8_now_20, eX8_now_21, eX8_now_23, eX8_now_26, eX8_now_27, eX8_now_30, eX8_now_31, eX8_now_32, eX8_now_33, eX8_now_34, eX8_now_35, eX8_now_36, eX8_now_39, eX8_now_42, eX8_now_43, eX8_now_46, eX8_now_47, eX8_now_48, eX8_now_84, eX8_now_85, eX8_now_88, eX8_now_91, eX8_now_92, eX8_now_95, eX8_now_98, eX8_now_101, eX8_now_102, eX8_now_103, eX8_now_106, eX8_now_107, eX8_now_108, eX8_now_111, eX8_now_112, eX8_now_113, eX8_now_114, eX8_now_117, eX8_now_118, eX8_now_121, eX8_now_122, eX8_now_123, eX8_now_124, eX8_now_127, eX8_now_130, eX8_now_131, eX8_now_132, eX8_now_135, eX8_now_136, eX8_now_139, eX8_now_140, eX8_now_141, eX8_now_142, eX8_now_145, eX8_now_146, eX8_now_147, eX8_now_150, eX8_now_49_o n1, List.getElem?_cons_zero, List.getElem?_cons_succ, Option.some.injEq, Value.int.injEq, Value.long.injEq, Value.ref.injEq, reduceCtorEq, exists_eq_left', exists_eq_left, exists_and_left, exists_and_right, and_assoc, and_true, true_and, true_or, or_true, x_rfv_ref, x_rfv_null, Prod.mk.injEq, List.set_cons_zero, List.set_cons_succ, List.length_cons, List.length_nil, Value.category, x_nl0, x_nl1, x_nl2, x_nl3, x_nl4, x_nl5, x_nl6, x_nl7, x_nl8, x_nl9, x_nl10, x_nl11, x_nl12, List.map_nil, List.map_cons, List.sum_nil, List.sum_cons, Option.toList_some, Option.toList_none, List.nil_append, List.cons_append, xl_lt, xl_gt, xl_eq, ↓reduceIte, Nat.reduceLT, Nat.reduceAdd, Nat.reduceLeDiff, x_up_self, x_uu, lt0, ln0, lx0, lt1, ln1, lx1, lt2, ln2, lx2, lt3, ln3, lx3, lt4, ln4, lx4, lt5, ln5, lx5, lt6, ln6, lx6, lt7, ln7, lx7, lt8, ln8, lx8, lt9, ln9, lx9, lt10, ln10, lx10, lt11, ln11, lx11, lt12, ln12, lx12, lt13, ln13, lx13, lt14, ln14, lx14, lt15, ln15, lx15, lt16, ln16, lx16, lt17, ln17, lx17, lt18, ln18, lx18, lt19, ln19, lx19, lt20, ln20, lx20, lt21, ln21, lx21, lt22, ln22, lx22, lt23, ln23, lx23, lt24, ln24, lx24, la0, la1, la2, la3, la4, la5, la6, la7, la8, la9, la10, la11, la12, lb0, lb1, lb2, lb3, lb4, lb5, lb6, lb7, lb8, lb9, lb10, lb11, lb12, lt60, lt400, lt900, ltm1, ltm2, ltm4, ltm10000, lt10000, lt1000000, ltm1000000, lt10000000, lt2000, lt100000, Int.toNat_natCast, i1ne0, i0eq0, Int.reduceLT, Int.reduceLE, Int.reduceToNat, Int.reduceNeg, not_true, not_false_iff, false_imp_iff, true_imp_iff, imp_self, implies_true, Option.isSome_some, Bool.false_eq_true, r0, n0, g1, g2, ite_self, nI_k (show S.2.2.2.1.1.length < 2147483648 by omega)]
      exact h
  all_goals simp only [eX8_now_0, eX8_now_1, eX8_now_2, eX8_now_5, eX8_now_6, eX8_now_9, eX8_now_10, eX8_now_13, eX8_now_14, eX8_now_15, eX8_now_16, eX8_now_17, eX8_now_20, eX8_now_21, eX8_now_23, eX8_now_26, eX8_now_27, eX8_now_30, eX8_now_31, eX8_now_32, eX8_now_33, eX8_now_34, eX8_now_35, eX8_now_36, eX8_now_39, eX8_now_42, eX8_now_43, eX8_now_46, eX8_now_47, eX8_now_48, eX8_now_84, eX8_now_85, eX8_now_88, eX8_now_91, eX8_now_92, eX8_now_95, eX8_now_98, eX8_now_101, eX8_now_102, eX8_now_103, eX8_now_106, eX8_now_107, eX8_now_108, eX8_now_111, eX8_now_112, eX8_now_113, eX8_now_114, eX8_now_117, eX8_now_118, eX8_now_121, eX8_now_122, eX8_now_123, eX8_now_124, eX8_now_127, eX8_now_130, eX8_now_131, eX8_now_132, eX8_now_135, eX8_now_136, eX8_now_139, eX8_now_140, eX8_now_141, eX8_now_142, eX8_now_145, eX8_now_146, eX8_now_147, eX8_now_150, eX8_now_49_9, eX8_now_49_10, eX8_now_49_11, eX8_now_49_12, eX8_now_49_13, List.getElem?_cons_zero, List.getElem?_cons_succ, Option.some.injEq, Value.int.injEq, Value.long.injEq, Value.ref.injEq, reduceCtorEq, exists_eq_left', exists_eq_left, exists_and_left, exists_and_right, and_assoc, and_true, true_and, true_or, or_true, x_rfv_ref, x_rfv_null, Prod.mk.injEq, List.set_cons_zero, List.set_cons_succ, List.length_cons, List.length_nil, Value.category, x_nl0, x_nl1, x_nl2, x_nl3, x_nl4, x_nl5, x_nl6, x_nl7, x_nl8, x_nl9, x_nl10, x_nl11, x_nl12, List.map_nil, List.map_cons, List.sum_nil, List.sum_cons, Option.toList_some, Option.toList_none, List.nil_append, List.cons_append, xl_lt, xl_gt, xl_eq, ↓reduceIte, Nat.reduceLT, Nat.reduceAdd, Nat.reduceLeDiff, x_up_self, x_uu, lt0, ln0, lx0, lt1, ln1, lx1, lt2, ln2, lx2, lt3, ln3, lx3, lt4, ln4, lx4, lt5, ln5, lx5, lt6, ln6, lx6, lt7, ln7, lx7, lt8, ln8, lx8, lt9, ln9, lx9, lt10, ln10, lx10, lt11, ln11, lx11, lt12, ln12, lx12, lt13, ln13, lx13, lt14, ln14, lx14, lt15, ln15, lx15, lt16, ln16, lx16, lt17, ln17, lx17, lt18, ln18, lx18, lt19, ln19, lx19, lt20, ln20, lx20, lt21, ln21, lx21, lt22, ln22, lx22, lt23, ln23, lx23, lt24, ln24, lx24, la0, la1, la2, la3, la4, la5, la6, la7, la8, la9, la10, la11, la12, lb0, lb1, lb2, lb3, lb4, lb5, lb6, lb7, lb8, lb9, lb10, lb11, lb12, lt60, lt400, lt900, ltm1, ltm2, ltm4, ltm10000, lt10000, lt1000000, ltm1000000, lt10000000, lt2000, lt100000, Int.toNat_natCast, i1ne0, i0eq0, Int.reduceLT, Int.reduceLE, Int.reduceToNat, Int.reduceNeg, not_true, not_false_iff, false_imp_iff, true_imp_iff, imp_self, implies_true, Option.isSome_some, Bool.false_eq_true, r0, r1, s0, s1, s2, s3, s4, s5, s6, s7, ls11, ls21, ls31, ls41, ls51, ls61, ls71, ls81, nI_k (show S.2.2.2.1.1.length < 2147483648 by omega), show ((2 : Int32) = 0) = False by decide, show ((3 : Int32) = 0) = False by decide, show ((4 : Int32) = 0) = False by decide, show ((5 : Int32) = 0) = False by decide, show ((6 : Int32) = 0) = False by decide, show ((7 : Int32) = 0) = False by decide, show ((8 : Int32) = 0) = False by decide, show ((9 : Int32) = 0) = False by decide, show ((10 : Int32) = 0) = False by decide, show ((11 : Int32) = 0) = False by decide, show ((12 : Int32) = 0) = False by decide, show ((13 : Int32) = 0) = False by decide]
  · exact h
  · exact h
  · exact h
  · exact h
  · exact h
  · exact h
  · exact h
  · exact h
  · exact h
  · have h : K (some (.long (if S.2.2.2.2.2.1.1 then S.2.2.2.2.2.1.2.2.1 else 1073741823))) (w1, σ.2) := h
    rw [ite_self]
    cases hb : S.2.2.2.2.2.1.1
    · rw [hb] at h; exact h
    · rw [hb] at h; exact h
  · have h : K (some (.long S.2.2.2.2.1.2.2.2.2.2.1)) (w1, σ.2) := h
    rw [ite_self]; exact h
  · have h : K (some (.long (nI S.2.2.2.1.1.length).toInt64)) (w1, σ.2) := h
    rw [ite_self]; exact h
  · have h : K (some (.long (match S.2.2.2.1.1 with | i :: _ => (nI i).toInt64 | [] => -1))) (w1, σ.2) := h
    cases hL : S.2.2.2.1.1 with
    | nil => rw [hL] at h; exact h
    | cons i r =>
      rw [hL] at h l2
      rw [if_pos (by simp)]
      exact ⟨100, V16, l1, Or.inl rfl, _, l2.2 0 (by simp), by simp only [eX8_now_123, eX8_now_124, eX8_now_127, eX8_now_130]; exact h⟩
  · have h : K (some (.long (match S.2.2.2.1.1 with | i :: _ => (S.2.2.2.1.2.1 i).toInt64 | [] => 0))) (w1, σ.2) := h
    cases hL : S.2.2.2.1.1 with
    | nil => rw [hL] at h; exact h
    | cons i r =>
      rw [hL] at h l4
      rw [if_pos (by simp)]
      exact ⟨100, V17, l3, Or.inl rfl, _, l4.2 0 (by simp), by simp only [eX8_now_141, eX8_now_142, eX8_now_145, eX8_now_146]; exact h⟩
