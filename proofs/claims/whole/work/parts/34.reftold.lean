/-! THE REFERENCE: told, marked, now -/
def m_told (S : MS) (x q : Int32) : Int64 := if okp S x = true ∧ 0 ≤ q.toInt ∧ q.toInt ≤ 14 then (if q.toInt = 0 then (nI (pg_at S.2.2.2.2.2.2 x.toInt.toNat).1.length).toInt64 else if q.toInt < 9 then (pg_at S.2.2.2.2.2.2 x.toInt.toNat).2.1 (q.toInt.toNat - 1) else if q.toInt = 9 then (pg_at S.2.2.2.2.2.2 x.toInt.toNat).2.2.1 else if q.toInt = 10 then (pg_at S.2.2.2.2.2.2 x.toInt.toNat).2.2.2.1.toInt64 else (pg_at S.2.2.2.2.2.2 x.toInt.toNat).2.1 (q.toInt.toNat - 3)) else -1
theorem i_nI {x : Int32} (h : 0 ≤ x.toInt) : ∃ k : Nat, k < 2147483648 ∧ x = nI k := by
  have hb : x.toInt < 2147483648 := by have := Int32.toInt_lt x; omega
  exact ⟨x.toInt.toNat, by omega, Int32.toInt_inj.mp (by rw [nI_toInt (by omega)]; omega)⟩
theorem ix_12 {p k : Nat} (c : Nat) (hc : c ≤ k) : (12 : Int32) * nI p + nI k - nI c = nI (12 * p + (k - c)) := by
  rw [show (12 : Int32) = nI 12 from rfl, pk_mul, nI_add, pk_sub (by omega)]
  congr 1
  omega
set_option maxRecDepth 20000 in
theorem s_toldM {B : Nat} {ad M : Nat → Nat} {thr x q : Int32} {S : MS} {σ : xW} {K : xK} (hM : ainj M) (hB : ∀ c, B ≤ M c) (h0 : RM σ.1 M thr S) (h : K (some (.long (m_told S x q))) (x_up σ.1 (M 0) (mo_ M 0 S), σ.2)) : x_cl (eX8_told B ad) [.ref (M 0), .int x, .int q] σ K := by
  have hR := RM_thr (t := 0) hM h0
  obtain ⟨r0, -, -, -, -, -, rP, -⟩ := hR
  have hn : S.2.2.2.2.2.2.length + 1 ≤ 61 := by obtain ⟨⟨V, -, g2⟩, -⟩ := rP; exact apre_n g2
  obtain ⟨h0, -⟩ := h0
  have e0 : ∀ q : xE, q = mo_ M 0 S → x_up σ.1 (M 0) q = x_up σ.1 (M 0) (mo_ M 0 S) := fun q hq => by rw [hq]
  refine x_ev_of (by simp [x_sl, Value.category]) ?_
  show wX8_told B ad K 0 [.ref (M 0), .int x, .int q] [] σ
  unfold mo_ mobj at h0
  simp only [eX8_told_0, eX8_told_1, eX8_told_2, eX8_told_5, eX8_told_6, eX8_told_7, eX8_told_10, eX8_told_13, eX8_told_14, eX8_told_17, eX8_told_18, eX8_told_20, eX8_told_23, eX8_told_26, eX8_told_27, eX8_told_28, eX8_told_31, eX8_told_32, eX8_told_33, eX8_told_36, eX8_told_37, eX8_told_38, eX8_told_39, eX8_told_41, eX8_told_44, eX8_told_45, eX8_told_48, eX8_told_50, eX8_told_51, eX8_told_52, eX8_told_53, eX8_told_54, eX8_told_55, eX8_told_56, eX8_told_57, eX8_told_58, eX8_told_59, eX8_told_61, eX8_told_64, eX8_told_65, eX8_told_68, eX8_told_69, eX8_told_70, eX8_told_73, eX8_told_74, eX8_told_76, eX8_told_79, eX8_told_80, eX8_told_83, eX8_told_84, eX8_told_85, eX8_told_86, eX8_told_89, eX8_told_90, eX8_told_93, eX8_told_95, eX8_told_96, eX8_told_97, eX8_told_98, eX8_told_99, eX8_told_100, eX8_told_101, eX8_told_102, List.getElem?_cons_zero, List.getElem?_cons_succ, Option.some.injEq, Value.int.injEq, Value.long.injEq, Value.ref.injEq, reduceCtorEq, exists_eq_left', exists_eq_left, exists_and_left, exists_and_right, and_assoc, and_true, true_and, true_or, or_true, x_rfv_ref, x_rfv_null, Prod.mk.injEq, List.set_cons_zero, List.set_cons_succ, List.length_cons, List.length_nil, Value.category, x_nl0, x_nl1, x_nl2, x_nl3, x_nl4, x_nl5, x_nl6, x_nl7, x_nl8, x_nl9, x_nl10, x_nl11, x_nl12, List.map_nil, List.map_cons, List.sum_nil, List.sum_cons, Option.toList_some, Option.toList_none, List.nil_append, List.cons_append, xl_lt, xl_gt, xl_eq, ↓reduceIte, Nat.reduceLT, Nat.reduceAdd, Nat.reduceLeDiff, x_up_self, x_uu, lt0, ln0, lx0, lt1, ln1, lx1, lt2, ln2, lx2, lt3, ln3, lx3, lt4, ln4, lx4, lt5, ln5, lx5, lt6, ln6, lx6, lt7, ln7, lx7, lt8, ln8, lx8, lt9, ln9, lx9, lt10, ln10, lx10, lt11, ln11, lx11, lt12, ln12, lx12, lt13, ln13, lx13, lt14, ln14, lx14, lt15, ln15, lx15, lt16, ln16, lx16, lt17, ln17, lx17, lt18, ln18, lx18, lt19, ln19, lx19, lt20, ln20, lx20, lt21, ln21, lx21, lt22, ln22, lx22, lt23, ln23, lx23, lt24, ln24, lx24, la0, la1, la2, la3, la4, la5, la6, la7, la8, la9, la10, la11, la12, lb0, lb1, lb2, lb3, lb4, lb5, lb6, lb7, lb8, lb9, lb10, lb11, lb12, lt60, lt400, lt900, ltm1, ltm2, ltm4, ltm10000, lt10000, lt1000000, ltm1000000, lt10000000, lt2000, lt100000, Int.toNat_natCast, i1ne0, i0eq0, Int.reduceLT, Int.reduceLE, Int.reduceToNat, Int.reduceNeg, not_true, not_false_iff, false_imp_iff, true_imp_iff, imp_self, implies_true, Option.isSome_some, Bool.false_eq_true, h0, hB, x_clvu]
  rw [e0 _ (by unfold mo_ mobj; rfl)]
  clear e0
  generalize x_up σ.1 (M 0) (mo_ M 0 S) = w1 at r0 rP h ⊢
  refine s_isPage (S := S) (thr := 0) r0 (by omega) ?_
  have r0' := r0
  unfold mo_ mobj at r0'
  simp only [eX8_told_0, eX8_told_1, eX8_told_2, eX8_told_5, eX8_told_6, eX8_told_7, eX8_told_10, eX8_told_13, eX8_told_14, eX8_told_17, eX8_told_18, eX8_told_20, eX8_told_23, eX8_told_26, eX8_told_27, eX8_told_28, eX8_told_31, eX8_told_32, eX8_told_33, eX8_told_36, eX8_told_37, eX8_told_38, eX8_told_39, eX8_told_41, eX8_told_44, eX8_told_45, eX8_told_48, eX8_told_50, eX8_told_51, eX8_told_52, eX8_told_53, eX8_told_54, eX8_told_55, eX8_told_56, eX8_told_57, eX8_told_58, eX8_told_59, eX8_told_61, eX8_told_64, eX8_told_65, eX8_told_68, eX8_told_69, eX8_told_70, eX8_told_73, eX8_told_74, eX8_told_76, eX8_told_79, eX8_told_80, eX8_told_83, eX8_told_84, eX8_told_85, eX8_told_86, eX8_told_89, eX8_told_90, eX8_told_93, eX8_told_95, eX8_told_96, eX8_told_97, eX8_told_98, eX8_told_99, eX8_told_100, eX8_told_101, eX8_told_102, List.getElem?_cons_zero, List.getElem?_cons_succ, Option.some.injEq, Value.int.injEq, Value.long.injEq, Value.ref.injEq, reduceCtorEq, exists_eq_left', exists_eq_left, exists_and_left, exists_and_right, and_assoc, and_true, true_and, true_or, or_true, x_rfv_ref, x_rfv_null, Prod.mk.injEq, List.set_cons_zero, List.set_cons_succ, List.length_cons, List.length_nil, Value.category, x_nl0, x_nl1, x_nl2, x_nl3, x_nl4, x_nl5, x_nl6, x_nl7, x_nl8, x_nl9, x_nl10, x_nl11, x_nl12, List.map_nil, List.map_cons, List.sum_nil, List.sum_cons, Option.toList_some, Option.toList_none, List.nil_append, List.cons_append, xl_lt, xl_gt, xl_eq, ↓reduceIte, Nat.reduceLT, Nat.reduceAdd, Nat.reduceLeDiff, x_up_self, x_uu, lt0, ln0, lx0, lt1, ln1, lx1, lt2, ln2, lx2, lt3, ln3, lx3, lt4, ln4, lx4, lt5, ln5, lx5, lt6, ln6, lx6, lt7, ln7, lx7, lt8, ln8, lx8, lt9, ln9, lx9, lt10, ln10, lx10, lt11, ln11, lx11, lt12, ln12, lx12, lt13, ln13, lx13, lt14, ln14, lx14, lt15, ln15, lx15, lt16, ln16, lx16, lt17, ln17, lx17, lt18, ln18, lx18, lt19, ln19, lx19, lt20, ln20, lx20, lt21, ln21, lx21, lt22, ln22, lx22, lt23, ln23, lx23, lt24, ln24, lx24, la0, la1, la2, la3, la4, la5, la6, la7, la8, la9, la10, la11, la12, lb0, lb1, lb2, lb3, lb4, lb5, lb6, lb7, lb8, lb9, lb10, lb11, lb12, lt60, lt400, lt900, ltm1, ltm2, ltm4, ltm10000, lt10000, lt1000000, ltm1000000, lt10000000, lt2000, lt100000, Int.toNat_natCast, i1ne0, i0eq0, Int.reduceLT, Int.reduceLE, Int.reduceToNat, Int.reduceNeg, not_true, not_false_iff, false_imp_iff, true_imp_iff, imp_self, implies_true, Option.isSome_some, Bool.false_eq_true, r0', x_clvp r0']
  unfold m_told at h
  rcases pg_case x S.2.2.2.2.2.2.length (by omega) with hx | ⟨p, hp, rfl⟩
  · rw [okp_f hx] at h ⊢
    rw [bzf, if_pos rfl]
    rw [if_neg (by simp)] at h
    exact h
  · rw [okp_t hp (by omega), nI_nat (by omega)] at h
    rw [okp_t hp (by omega), bzt, if_neg (by decide)]
    by_cases g1 : q.toInt < 0
    · rw [if_pos g1]
      rw [if_neg (by omega)] at h
      exact h
    · rw [if_neg g1]
      by_cases g2 : 14 < q.toInt
      · rw [if_pos g2]
        rw [if_neg (by omega)] at h
        exact h
      · rw [if_neg g2]
        rw [if_pos ⟨rfl, by omega, by omega⟩] at h
        obtain ⟨k, hk, rfl⟩ := i_nI (x := q) (by omega)
        rw [nI_k hk] at g1 g2 h ⊢
        rw [Int.toNat_natCast] at h
        obtain ⟨-, -, -, ⟨V38, g3, g4⟩, ⟨V39, g5, g6⟩, ⟨V40, g7, g8⟩, -⟩ := id rP
        by_cases c0 : k = 0
        · subst c0
          rw [if_pos (by omega)] at h
          rw [if_pos (show nI 0 = 0 from rfl)]
          refine s_sizeOf (S := S) r0 rP hp ?_
          simp only [eX8_told_0, eX8_told_1, eX8_told_2, eX8_told_5, eX8_told_6, eX8_told_7, eX8_told_10, eX8_told_13, eX8_told_14, eX8_told_17, eX8_told_18, eX8_told_20, eX8_told_23, eX8_told_26, eX8_told_27, eX8_told_28, eX8_told_31, eX8_told_32, eX8_told_33, eX8_told_36, eX8_told_37, eX8_told_38, eX8_told_39, eX8_told_41, eX8_told_44, eX8_told_45, eX8_told_48, eX8_told_50, eX8_told_51, eX8_told_52, eX8_told_53, eX8_told_54, eX8_told_55, eX8_told_56, eX8_told_57, eX8_told_58, eX8_told_59, eX8_told_61, eX8_told_64, eX8_told_65, eX8_told_68, eX8_told_69, eX8_told_70, eX8_told_73, eX8_told_74, eX8_told_76, eX8_told_79, eX8_told_80, eX8_told_83, eX8_told_84, eX8_told_85, eX8_told_86, eX8_told_89, eX8_told_90, eX8_told_93, eX8_told_95, eX8_told_96, eX8_told_97, eX8_told_98, eX8_told_99, eX8_told_100, eX8_told_101, eX8_told_102, List.getElem?_cons_zero, List.getElem?_cons_succ, Option.some.injEq, Value.int.injEq, Value.long.injEq, Value.ref.injEq, reduceCtorEq, exists_eq_left', exists_eq_left, exists_and_left, exists_and_right, and_assoc, and_true, true_and, true_or, or_true, x_rfv_ref, x_rfv_null, Prod.mk.injEq, List.set_cons_zero, List.set_cons_succ, List.length_cons, List.length_nil, Value.category, x_nl0, x_nl1, x_nl2, x_nl3, x_nl4, x_nl5, x_nl6, x_nl7, x_nl8, x_nl9, x_nl10, x_nl11, x_nl12, List.map_nil, List.map_cons, List.sum_nil, List.sum_cons, Option.toList_some, Option.toList_none, List.nil_append, List.cons_append, xl_lt, xl_gt, xl_eq, ↓reduceIte, Nat.reduceLT, Nat.reduceAdd, Nat.reduceLeDiff, x_up_self, x_uu]
          exact h
        · rw [if_neg (by omega)] at h
          rw [if_neg (by intro e; exact c0 ((nI_eq (by omega) (by decide)).mp e))]
          by_cases c1 : k < 9
          · rw [if_pos (by omega)] at h
            rw [if_pos (by omega)]
            have e1 : (12 : Int32) * nI p + nI k - 1 = nI (12 * p + (k - 1)) := ix_12 1 (by omega)
            simp only [eX8_told_0, eX8_told_1, eX8_told_2, eX8_told_5, eX8_told_6, eX8_told_7, eX8_told_10, eX8_told_13, eX8_told_14, eX8_told_17, eX8_told_18, eX8_told_20, eX8_told_23, eX8_told_26, eX8_told_27, eX8_told_28, eX8_told_31, eX8_told_32, eX8_told_33, eX8_told_36, eX8_told_37, eX8_told_38, eX8_told_39, eX8_told_41, eX8_told_44, eX8_told_45, eX8_told_48, eX8_told_50, eX8_told_51, eX8_told_52, eX8_told_53, eX8_told_54, eX8_told_55, eX8_told_56, eX8_told_57, eX8_told_58, eX8_told_59, eX8_told_61, eX8_told_64, eX8_told_65, eX8_told_68, eX8_told_69, eX8_told_70, eX8_told_73, eX8_told_74, eX8_told_76, eX8_told_79, eX8_told_80, eX8_told_83, eX8_told_84, eX8_told_85, eX8_told_86, eX8_told_89, eX8_told_90, eX8_told_93, eX8_told_95, eX8_told_96, eX8_told_97, eX8_told_98, eX8_told_99, eX8_told_100, eX8_told_101, eX8_told_102, List.getElem?_cons_zero, List.getElem?_cons_succ, Option.some.injEq, Value.int.injEq, Value.long.injEq, Value.ref.injEq, reduceCtorEq, exists_eq_left', exists_eq_left, exists_and_left, exists_and_right, and_assoc, and_true, true_and, true_or, or_true, x_rfv_ref, x_rfv_null, Prod.mk.injEq, List.set_cons_zero, List.set_cons_succ, List.length_cons, List.length_nil, Value.category, x_nl0, x_nl1, x_nl2, x_nl3, x_nl4, x_nl5, x_nl6, x_nl7, x_nl8, x_nl9, x_nl10, x_nl11, x_nl12, List.map_nil, List.map_cons, List.sum_nil, List.sum_cons, Option.toList_some, Option.toList_none, List.nil_append, List.cons_append, xl_lt, xl_gt, xl_eq, ↓reduceIte, Nat.reduceLT, Nat.reduceAdd, Nat.reduceLeDiff, x_up_self, x_uu, lt0, ln0, lx0, lt1, ln1, lx1, lt2, ln2, lx2, lt3, ln3, lx3, lt4, ln4, lx4, lt5, ln5, lx5, lt6, ln6, lx6, lt7, ln7, lx7, lt8, ln8, lx8, lt9, ln9, lx9, lt10, ln10, lx10, lt11, ln11, lx11, lt12, ln12, lx12, lt13, ln13, lx13, lt14, ln14, lx14, lt15, ln15, lx15, lt16, ln16, lx16, lt17, ln17, lx17, lt18, ln18, lx18, lt19, ln19, lx19, lt20, ln20, lx20, lt21, ln21, lx21, lt22, ln22, lx22, lt23, ln23, lx23, lt24, ln24, lx24, la0, la1, la2, la3, la4, la5, la6, la7, la8, la9, la10, la11, la12, lb0, lb1, lb2, lb3, lb4, lb5, lb6, lb7, lb8, lb9, lb10, lb11, lb12, lt60, lt400, lt900, ltm1, ltm2, ltm4, ltm10000, lt10000, lt1000000, ltm1000000, lt10000000, lt2000, lt100000, Int.toNat_natCast, i1ne0, i0eq0, Int.reduceLT, Int.reduceLE, Int.reduceToNat, Int.reduceNeg, not_true, not_false_iff, false_imp_iff, true_imp_iff, imp_self, implies_true, Option.isSome_some, Bool.false_eq_true, r0', g3, e1, apre_ix g4 (show 12 * p + (k - 1) < _ by omega) (by omega)]
            rw [show (12 * p + (k - 1)) / 12 = p by omega, show (12 * p + (k - 1)) % 12 = k - 1 by omega]
            exact h
          · rw [if_neg (by omega)] at h
            rw [if_neg (by omega)]
            have fin : ∀ v : Int64, K (some (.long v)) (w1, σ.2) → wX8_told B ad K 102 [Value.ref (M 0), Value.int (nI p), Value.int (nI k)] [.long v] (w1, σ.2) := by
              intro v hv
              simp only [eX8_told_102]
              exact hv
            by_cases c2 : k = 9
            · subst c2
              rw [if_pos (by rfl)] at h
              rw [if_pos (by rfl)]
              exact ⟨V39, g5, _, apre_ix g6 hp (by omega), fin _ h⟩
            · rw [if_neg (by omega)] at h
              rw [if_neg (by intro e; exact c2 ((nI_eq (b := 9) (by omega) (by decide)).mp e))]
              by_cases c3 : k = 10
              · subst c3
                rw [if_pos (by rfl)] at h
                rw [if_pos (by rfl)]
                refine ⟨100, V40, g7, Or.inl rfl, _, apre_ix g8 hp (by omega), ?_⟩
                simp only [eX8_told_85, eX8_told_86, eX8_told_89, eX8_told_90, eX8_told_93, eX8_told_95, eX8_told_96, eX8_told_97, eX8_told_98, eX8_told_99, eX8_told_100, eX8_told_101, eX8_told_102]
                exact h
              · rw [if_neg (by omega)] at h
                rw [if_neg (by intro e; exact c3 ((nI_eq (b := 10) (by omega) (by decide)).mp e))]
                have e1 : (12 : Int32) * nI p + nI k - 3 = nI (12 * p + (k - 3)) := ix_12 3 (by omega)
                rw [e1]
                refine ⟨V38, g3, _, apre_ix g4 (show 12 * p + (k - 3) < _ by omega) (by omega), fin _ ?_⟩
                rw [show (12 * p + (k - 3)) / 12 = p by omega, show (12 * p + (k - 3)) % 12 = k - 3 by omega]
                exact h
def m_okm (S : MS) (x q : Int32) : Bool := okp S x && decide (0 ≤ q.toInt ∧ q.toInt ≤ 2)
def m_mrk (S : MS) (x q : Int32) : Int32 := if q.toInt = 0 then (pg_at S.2.2.2.2.2.2 x.toInt.toNat).2.2.2.2.1 else if q.toInt = 1 then (pg_at S.2.2.2.2.2.2 x.toInt.toNat).2.2.2.2.2.1 else (pg_at S.2.2.2.2.2.2 x.toInt.toNat).2.2.2.2.2.2
theorem ix_3 {p k : Nat} : (3 : Int32) * nI p + nI k = nI (3 * p + k) := by
  rw [show (3 : Int32) = nI 3 from rfl, pk_mul, nI_add]
set_option maxRecDepth 20000 in
theorem s_markedM {B : Nat} {ad M : Nat → Nat} {thr x q : Int32} {S : MS} {σ : xW} {K : xK} (hM : ainj M) (hB : ∀ c, B ≤ M c) (h0 : RM σ.1 M thr S) (h : K (some (.int (if m_okm S x q then m_mrk S x q else 0))) (x_up σ.1 (M 0) (mo_ M (if m_okm S x q then 0 else 1) S), σ.2)) : x_cl (eX8_marked B ad) [.ref (M 0), .int x, .int q] σ K := by
  obtain ⟨r0, -, -, -, -, -, rP, -⟩ := id h0
  have hn : S.2.2.2.2.2.2.length + 1 ≤ 61 := by obtain ⟨⟨V, -, g2⟩, -⟩ := rP; exact apre_n g2
  refine x_ev_of (by simp [x_sl, Value.category]) ?_
  show wX8_marked B ad K 0 [.ref (M 0), .int x, .int q] [] σ
  have r0' := r0
  unfold mo_ mobj at r0'
  simp only [eX8_marked_0, eX8_marked_1, eX8_marked_2, eX8_marked_3, eX8_marked_6, eX8_marked_9, eX8_marked_10, eX8_marked_13, eX8_marked_14, eX8_marked_15, eX8_marked_18, eX8_marked_19, eX8_marked_22, eX8_marked_23, eX8_marked_26, eX8_marked_27, eX8_marked_30, eX8_marked_33, eX8_marked_34, eX8_marked_37, eX8_marked_38, eX8_marked_41, eX8_marked_42, eX8_marked_43, eX8_marked_44, eX8_marked_45, eX8_marked_46, eX8_marked_47, List.getElem?_cons_zero, List.getElem?_cons_succ, Option.some.injEq, Value.int.injEq, Value.long.injEq, Value.ref.injEq, reduceCtorEq, exists_eq_left', exists_eq_left, exists_and_left, exists_and_right, and_assoc, and_true, true_and, true_or, or_true, x_rfv_ref, x_rfv_null, Prod.mk.injEq, List.set_cons_zero, List.set_cons_succ, List.length_cons, List.length_nil, Value.category, x_nl0, x_nl1, x_nl2, x_nl3, x_nl4, x_nl5, x_nl6, x_nl7, x_nl8, x_nl9, x_nl10, x_nl11, x_nl12, List.map_nil, List.map_cons, List.sum_nil, List.sum_cons, Option.toList_some, Option.toList_none, List.nil_append, List.cons_append, xl_lt, xl_gt, xl_eq, ↓reduceIte, Nat.reduceLT, Nat.reduceAdd, Nat.reduceLeDiff, x_up_self, x_uu, lt0, ln0, lx0, lt1, ln1, lx1, lt2, ln2, lx2, lt3, ln3, lx3, lt4, ln4, lx4, lt5, ln5, lx5, lt6, ln6, lx6, lt7, ln7, lx7, lt8, ln8, lx8, lt9, ln9, lx9, lt10, ln10, lx10, lt11, ln11, lx11, lt12, ln12, lx12, lt13, ln13, lx13, lt14, ln14, lx14, lt15, ln15, lx15, lt16, ln16, lx16, lt17, ln17, lx17, lt18, ln18, lx18, lt19, ln19, lx19, lt20, ln20, lx20, lt21, ln21, lx21, lt22, ln22, lx22, lt23, ln23, lx23, lt24, ln24, lx24, la0, la1, la2, la3, la4, la5, la6, la7, la8, la9, la10, la11, la12, lb0, lb1, lb2, lb3, lb4, lb5, lb6, lb7, lb8, lb9, lb10, lb11, lb12, lt60, lt400, lt900, ltm1, ltm2, ltm4, ltm10000, lt10000, lt1000000, ltm1000000, lt10000000, lt2000, lt100000, Int.toNat_natCast, i1ne0, i0eq0, Int.reduceLT, Int.reduceLE, Int.reduceToNat, Int.reduceNeg, not_true, not_false_iff, false_imp_iff, true_imp_iff, imp_self, implies_true, Option.isSome_some, Bool.false_eq_true, r0', hB, x_clv r0']
  refine s_isPage (S := S) r0 (by omega) ?_
  have bad : m_okm S x q = false → K (some (.int 0)) (x_up σ.1 (M 0) (mo_ M 1 S), σ.2) := fun e => by rw [e] at h; exact h
  unfold mo_ mobj at bad
  rcases pg_case x S.2.2.2.2.2.2.length (by omega) with hx | ⟨p, hp, rfl⟩
  · rw [okp_f hx]
    simp only [eX8_marked_0, eX8_marked_1, eX8_marked_2, eX8_marked_3, eX8_marked_6, eX8_marked_9, eX8_marked_10, eX8_marked_13, eX8_marked_14, eX8_marked_15, eX8_marked_18, eX8_marked_19, eX8_marked_22, eX8_marked_23, eX8_marked_26, eX8_marked_27, eX8_marked_30, eX8_marked_33, eX8_marked_34, eX8_marked_37, eX8_marked_38, eX8_marked_41, eX8_marked_42, eX8_marked_43, eX8_marked_44, eX8_marked_45, eX8_marked_46, eX8_marked_47, List.getElem?_cons_zero, List.getElem?_cons_succ, Option.some.injEq, Value.int.injEq, Value.long.injEq, Value.ref.injEq, reduceCtorEq, exists_eq_left', exists_eq_left, exists_and_left, exists_and_right, and_assoc, and_true, true_and, true_or, or_true, x_rfv_ref, x_rfv_null, Prod.mk.injEq, List.set_cons_zero, List.set_cons_succ, List.length_cons, List.length_nil, Value.category, x_nl0, x_nl1, x_nl2, x_nl3, x_nl4, x_nl5, x_nl6, x_nl7, x_nl8, x_nl9, x_nl10, x_nl11, x_nl12, List.map_nil, List.map_cons, List.sum_nil, List.sum_cons, Option.toList_some, Option.toList_none, List.nil_append, List.cons_append, xl_lt, xl_gt, xl_eq, ↓reduceIte, Nat.reduceLT, Nat.reduceAdd, Nat.reduceLeDiff, x_up_self, x_uu, lt0, ln0, lx0, lt1, ln1, lx1, lt2, ln2, lx2, lt3, ln3, lx3, lt4, ln4, lx4, lt5, ln5, lx5, lt6, ln6, lx6, lt7, ln7, lx7, lt8, ln8, lx8, lt9, ln9, lx9, lt10, ln10, lx10, lt11, ln11, lx11, lt12, ln12, lx12, lt13, ln13, lx13, lt14, ln14, lx14, lt15, ln15, lx15, lt16, ln16, lx16, lt17, ln17, lx17, lt18, ln18, lx18, lt19, ln19, lx19, lt20, ln20, lx20, lt21, ln21, lx21, lt22, ln22, lx22, lt23, ln23, lx23, lt24, ln24, lx24, la0, la1, la2, la3, la4, la5, la6, la7, la8, la9, la10, la11, la12, lb0, lb1, lb2, lb3, lb4, lb5, lb6, lb7, lb8, lb9, lb10, lb11, lb12, lt60, lt400, lt900, ltm1, ltm2, ltm4, ltm10000, lt10000, lt1000000, ltm1000000, lt10000000, lt2000, lt100000, Int.toNat_natCast, i1ne0, i0eq0, Int.reduceLT, Int.reduceLE, Int.reduceToNat, Int.reduceNeg, not_true, not_false_iff, false_imp_iff, true_imp_iff, imp_self, implies_true, Option.isSome_some, Bool.false_eq_true, r0', hB, bzf]
    exact bad (by unfold m_okm; rw [okp_f hx]; rfl)
  · rw [okp_t hp (by omega)]
    by_cases g1 : q.toInt < 0
    · simp only [eX8_marked_0, eX8_marked_1, eX8_marked_2, eX8_marked_3, eX8_marked_6, eX8_marked_9, eX8_marked_10, eX8_marked_13, eX8_marked_14, eX8_marked_15, eX8_marked_18, eX8_marked_19, eX8_marked_22, eX8_marked_23, eX8_marked_26, eX8_marked_27, eX8_marked_30, eX8_marked_33, eX8_marked_34, eX8_marked_37, eX8_marked_38, eX8_marked_41, eX8_marked_42, eX8_marked_43, eX8_marked_44, eX8_marked_45, eX8_marked_46, eX8_marked_47, List.getElem?_cons_zero, List.getElem?_cons_succ, Option.some.injEq, Value.int.injEq, Value.long.injEq, Value.ref.injEq, reduceCtorEq, exists_eq_left', exists_eq_left, exists_and_left, exists_and_right, and_assoc, and_true, true_and, true_or, or_true, x_rfv_ref, x_rfv_null, Prod.mk.injEq, List.set_cons_zero, List.set_cons_succ, List.length_cons, List.length_nil, Value.category, x_nl0, x_nl1, x_nl2, x_nl3, x_nl4, x_nl5, x_nl6, x_nl7, x_nl8, x_nl9, x_nl10, x_nl11, x_nl12, List.map_nil, List.map_cons, List.sum_nil, List.sum_cons, Option.toList_some, Option.toList_none, List.nil_append, List.cons_append, xl_lt, xl_gt, xl_eq, ↓reduceIte, Nat.reduceLT, Nat.reduceAdd, Nat.reduceLeDiff, x_up_self, x_uu, lt0, ln0, lx0, lt1, ln1, lx1, lt2, ln2, lx2, lt3, ln3, lx3, lt4, ln4, lx4, lt5, ln5, lx5, lt6, ln6, lx6, lt7, ln7, lx7, lt8, ln8, lx8, lt9, ln9, lx9, lt10, ln10, lx10, lt11, ln11, lx11, lt12, ln12, lx12, lt13, ln13, lx13, lt14, ln14, lx14, lt15, ln15, lx15, lt16, ln16, lx16, lt17, ln17, lx17, lt18, ln18, lx18, lt19, ln19, lx19, lt20, ln20, lx20, lt21, ln21, lx21, lt22, ln22, lx22, lt23, ln23, lx23, lt24, ln24, lx24, la0, la1, la2, la3, la4, la5, la6, la7, la8, la9, la10, la11, la12, lb0, lb1, lb2, lb3, lb4, lb5, lb6, lb7, lb8, lb9, lb10, lb11, lb12, lt60, lt400, lt900, ltm1, ltm2, ltm4, ltm10000, lt10000, lt1000000, ltm1000000, lt10000000, lt2000, lt100000, Int.toNat_natCast, i1ne0, i0eq0, Int.reduceLT, Int.reduceLE, Int.reduceToNat, Int.reduceNeg, not_true, not_false_iff, false_imp_iff, true_imp_iff, imp_self, implies_true, Option.isSome_some, Bool.false_eq_true, r0', hB, bzt, g1]
      exact bad (by unfold m_okm; simp; omega)
    · by_cases g2 : 2 < q.toInt
      · simp only [eX8_marked_0, eX8_marked_1, eX8_marked_2, eX8_marked_3, eX8_marked_6, eX8_marked_9, eX8_marked_10, eX8_marked_13, eX8_marked_14, eX8_marked_15, eX8_marked_18, eX8_marked_19, eX8_marked_22, eX8_marked_23, eX8_marked_26, eX8_marked_27, eX8_marked_30, eX8_marked_33, eX8_marked_34, eX8_marked_37, eX8_marked_38, eX8_marked_41, eX8_marked_42, eX8_marked_43, eX8_marked_44, eX8_marked_45, eX8_marked_46, eX8_marked_47, List.getElem?_cons_zero, List.getElem?_cons_succ, Option.some.injEq, Value.int.injEq, Value.long.injEq, Value.ref.injEq, reduceCtorEq, exists_eq_left', exists_eq_left, exists_and_left, exists_and_right, and_assoc, and_true, true_and, true_or, or_true, x_rfv_ref, x_rfv_null, Prod.mk.injEq, List.set_cons_zero, List.set_cons_succ, List.length_cons, List.length_nil, Value.category, x_nl0, x_nl1, x_nl2, x_nl3, x_nl4, x_nl5, x_nl6, x_nl7, x_nl8, x_nl9, x_nl10, x_nl11, x_nl12, List.map_nil, List.map_cons, List.sum_nil, List.sum_cons, Option.toList_some, Option.toList_none, List.nil_append, List.cons_append, xl_lt, xl_gt, xl_eq, ↓reduceIte, Nat.reduceLT, Nat.reduceAdd, Nat.reduceLeDiff, x_up_self, x_uu, lt0, ln0, lx0, lt1, ln1, lx1, lt2, ln2, lx2, lt3, ln3, lx3, lt4, ln4, lx4, lt5, ln5, lx5, lt6, ln6, lx6, lt7, ln7, lx7, lt8, ln8, lx8, lt9, ln9, lx9, lt10, ln10, lx10, lt11, ln11, lx11, lt12, ln12, lx12, lt13, ln13, lx13, lt14, ln14, lx14, lt15, ln15, lx15, lt16, ln16, lx16, lt17, ln17, lx17, lt18, ln18, lx18, lt19, ln19, lx19, lt20, ln20, lx20, lt21, ln21, lx21, lt22, ln22, lx22, lt23, ln23, lx23, lt24, ln24, lx24, la0, la1, la2, la3, la4, la5, la6, la7, la8, la9, la10, la11, la12, lb0, lb1, lb2, lb3, lb4, lb5, lb6, lb7, lb8, lb9, lb10, lb11, lb12, lt60, lt400, lt900, ltm1, ltm2, ltm4, ltm10000, lt10000, lt1000000, ltm1000000, lt10000000, lt2000, lt100000, Int.toNat_natCast, i1ne0, i0eq0, Int.reduceLT, Int.reduceLE, Int.reduceToNat, Int.reduceNeg, not_true, not_false_iff, false_imp_iff, true_imp_iff, imp_self, implies_true, Option.isSome_some, Bool.false_eq_true, r0', hB, bzt, g1, g2]
        exact bad (by unfold m_okm; simp; omega)
      · have e : m_okm S (nI p) q = true := by unfold m_okm; rw [okp_t hp (by omega)]; simp; omega
        rw [e, if_pos rfl, if_pos rfl] at h
        unfold m_mrk at h
        rw [nI_nat (by omega)] at h
        obtain ⟨k, hk, rfl⟩ := i_nI (x := q) (by omega)
        rw [nI_k hk] at g1 g2 h
        obtain ⟨-, -, -, -, -, -, ⟨V, g3, g4⟩⟩ := rP
        have e41 : ∀ z, x_up σ.1 (M 0) z (M 41) = some (100, V) := fun z => by rw [x_upA hM, if_neg (by decide)]; exact g3
        unfold mo_ mobj at h
        simp only [eX8_marked_0, eX8_marked_1, eX8_marked_2, eX8_marked_3, eX8_marked_6, eX8_marked_9, eX8_marked_10, eX8_marked_13, eX8_marked_14, eX8_marked_15, eX8_marked_18, eX8_marked_19, eX8_marked_22, eX8_marked_23, eX8_marked_26, eX8_marked_27, eX8_marked_30, eX8_marked_33, eX8_marked_34, eX8_marked_37, eX8_marked_38, eX8_marked_41, eX8_marked_42, eX8_marked_43, eX8_marked_44, eX8_marked_45, eX8_marked_46, eX8_marked_47, List.getElem?_cons_zero, List.getElem?_cons_succ, Option.some.injEq, Value.int.injEq, Value.long.injEq, Value.ref.injEq, reduceCtorEq, exists_eq_left', exists_eq_left, exists_and_left, exists_and_right, and_assoc, and_true, true_and, true_or, or_true, x_rfv_ref, x_rfv_null, Prod.mk.injEq, List.set_cons_zero, List.set_cons_succ, List.length_cons, List.length_nil, Value.category, x_nl0, x_nl1, x_nl2, x_nl3, x_nl4, x_nl5, x_nl6, x_nl7, x_nl8, x_nl9, x_nl10, x_nl11, x_nl12, List.map_nil, List.map_cons, List.sum_nil, List.sum_cons, Option.toList_some, Option.toList_none, List.nil_append, List.cons_append, xl_lt, xl_gt, xl_eq, ↓reduceIte, Nat.reduceLT, Nat.reduceAdd, Nat.reduceLeDiff, x_up_self, x_uu, lt0, ln0, lx0, lt1, ln1, lx1, lt2, ln2, lx2, lt3, ln3, lx3, lt4, ln4, lx4, lt5, ln5, lx5, lt6, ln6, lx6, lt7, ln7, lx7, lt8, ln8, lx8, lt9, ln9, lx9, lt10, ln10, lx10, lt11, ln11, lx11, lt12, ln12, lx12, lt13, ln13, lx13, lt14, ln14, lx14, lt15, ln15, lx15, lt16, ln16, lx16, lt17, ln17, lx17, lt18, ln18, lx18, lt19, ln19, lx19, lt20, ln20, lx20, lt21, ln21, lx21, lt22, ln22, lx22, lt23, ln23, lx23, lt24, ln24, lx24, la0, la1, la2, la3, la4, la5, la6, la7, la8, la9, la10, la11, la12, lb0, lb1, lb2, lb3, lb4, lb5, lb6, lb7, lb8, lb9, lb10, lb11, lb12, lt60, lt400, lt900, ltm1, ltm2, ltm4, ltm10000, lt10000, lt1000000, ltm1000000, lt10000000, lt2000, lt100000, Int.toNat_natCast, i1ne0, i0eq0, Int.reduceLT, Int.reduceLE, Int.reduceToNat, Int.reduceNeg, not_true, not_false_iff, false_imp_iff, true_imp_iff, imp_self, implies_true, Option.isSome_some, Bool.false_eq_true, r0', hB, bzt, nI_k hk, g1, g2, e41, ix_3, apre_ix g4 (show 3 * p + k < _ by omega) (by omega)]
        have hc : k = 0 ∨ k = 1 ∨ k = 2 := by omega
        rcases hc with rfl | rfl | rfl
        · rw [show (3 * p + 0) % 3 = 0 by omega, show (3 * p + 0) / 3 = p by omega]; exact h
        · rw [show (3 * p + 1) % 3 = 1 by omega, show (3 * p + 1) / 3 = p by omega]; exact h
        · rw [show (3 * p + 2) % 3 = 2 by omega, show (3 * p + 2) / 3 = p by omega]; exact h
def m_now (S : MS) (q : Int32) : Int64 := if q.toInt = 0 then (nI S.2.2.2.2.1.1.length).toInt64 else if 1 ≤ q.toInt ∧ q.toInt ≤ 8 then S.2.2.2.2.1.2.2.1 (q.toInt.toNat - 1) else if q.toInt = 9 then (if S.2.2.2.2.2.1.1 then S.2.2.2.2.2.1.2.2.1 else 1073741823) else if q.toInt = 10 then S.2.2.2.2.1.2.2.2.2.2.1 else if q.toInt = 11 then (nI S.2.2.2.1.1.length).toInt64 else if q.toInt = 12 then (match S.2.2.2.1.1 with | i :: _ => (nI i).toInt64 | [] => -1) else if q.toInt = 13 then (match S.2.2.2.1.1 with | i :: _ => (S.2.2.2.1.2.1 i).toInt64 | [] => 0) else -1
theorem s_thrownM {B : Nat} {ad M : Nat → Nat} {thr : Int32} {S : MS} {σ : xW} {K : xK} (h0 : RM σ.1 M thr S) (h : K (some (.int thr)) σ) : x_cl (eX8_thrown B ad) [.ref (M 0)] σ K := by
  obtain ⟨h0, -⟩ := h0
  unfold mo_ mobj at h0
  refine x_ev_of (by simp [x_sl, Value.category]) ?_
  show wX8_thrown B ad K 0 [.ref (M 0)] [] σ
  simp only [eX8_thrown_0, eX8_thrown_1, eX8_thrown_4, List.getElem?_cons_zero, List.getElem?_cons_succ, Option.some.injEq, Value.int.injEq, Value.long.injEq, Value.ref.injEq, reduceCtorEq, exists_eq_left', exists_eq_left, exists_and_left, exists_and_right, and_assoc, and_true, true_and, true_or, or_true, x_rfv_ref, x_rfv_null, Prod.mk.injEq, List.set_cons_zero, List.set_cons_succ, List.length_cons, List.length_nil, Value.category, x_nl0, x_nl1, x_nl2, x_nl3, x_nl4, x_nl5, x_nl6, x_nl7, x_nl8, x_nl9, x_nl10, x_nl11, x_nl12, List.map_nil, List.map_cons, List.sum_nil, List.sum_cons, Option.toList_some, Option.toList_none, List.nil_append, List.cons_append, xl_lt, xl_gt, xl_eq, ↓reduceIte, Nat.reduceLT, Nat.reduceAdd, Nat.reduceLeDiff, x_up_self, x_uu, h0]
  exact h
