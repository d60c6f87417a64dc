/-! what a break costs: the same number in class and reference -/
theorem c1e4 : (10000 : Int64).toInt = 10000 := by decide
def sm (x : Int64) : Prop := -1099511627776 ≤ x.toInt ∧ x.toInt ≤ 1099511627776
theorem i64_add {a b : Int64} (h : -9000000000000000000 ≤ a.toInt + b.toInt ∧ a.toInt + b.toInt ≤ 9000000000000000000) : (a + b).toInt = a.toInt + b.toInt := by
  rw [Int64.toInt_add]; exact Int.bmod_eq_of_le (by omega) (by omega)
theorem i64_sub {a b : Int64} (h : -9000000000000000000 ≤ a.toInt - b.toInt ∧ a.toInt - b.toInt ≤ 9000000000000000000) : (a - b).toInt = a.toInt - b.toInt := by
  rw [Int64.toInt_sub]; exact Int.bmod_eq_of_le (by omega) (by omega)
theorem i64_mul {a b : Int64} (h : -9000000000000000000 ≤ a.toInt * b.toInt ∧ a.toInt * b.toInt ≤ 9000000000000000000) : (a * b).toInt = a.toInt * b.toInt := by
  rw [Int64.toInt_mul]; exact Int.bmod_eq_of_le (by omega) (by omega)
theorem i64_neg {a : Int64} (h : -9000000000000000000 ≤ a.toInt ∧ a.toInt ≤ 9000000000000000000) : (-a).toInt = -a.toInt := by
  rw [Int64.toInt_neg]; exact Int.bmod_eq_of_le (by omega) (by omega)
theorem i32_add {a b : Int32} (h : -2000000000 ≤ a.toInt + b.toInt ∧ a.toInt + b.toInt ≤ 2000000000) : (a + b).toInt = a.toInt + b.toInt := by
  rw [Int32.toInt_add]; exact Int.bmod_eq_of_le (by omega) (by omega)
theorem i32_sub {a b : Int32} (h : -2000000000 ≤ a.toInt - b.toInt ∧ a.toInt - b.toInt ≤ 2000000000) : (a - b).toInt = a.toInt - b.toInt := by
  rw [Int32.toInt_sub]; exact Int.bmod_eq_of_le (by omega) (by omega)
theorem i64_32 {a : Int64} (h : -2000000000 ≤ a.toInt ∧ a.toInt ≤ 2000000000) : a.toInt32.toInt = a.toInt := by
  rw [Int64.toInt_toInt32]; exact Int.bmod_eq_of_le (by omega) (by omega)
theorem i32_64 (a : Int32) : a.toInt64.toInt = a.toInt := Int32.toInt_toInt64 a
theorem bdr_nn {t s : Int64} (ht : 0 ≤ t.toInt) (hs : 0 < s.toInt) : 0 ≤ (bd_r t s).toInt := by
  unfold bd_r
  split
  · have e : (297 * t).toInt = 297 * t.toInt := i64_mul (by have : (297 : Int64).toInt = 297 := by decide
                                                            rw [this]; omega)
    rw [i64_div (by rw [e]; omega) hs, e]
    exact Int.ediv_nonneg (by omega) (by omega)
  · split
    · have e : (s / 297).toInt = s.toInt / 297 := i64_div (by omega) (by decide)
      rw [i64_div ht (by rw [e]; omega)]
      exact Int.ediv_nonneg ht (by rw [e]; omega)
    · exact ht
theorem bd_rng {t s : Int64} (ht : 0 ≤ t.toInt) (hs : 0 ≤ s.toInt) : 0 ≤ (bd t s).toInt ∧ (bd t s).toInt ≤ 10000 := by
  unfold bd
  split
  · decide
  · split
    · decide
    · rename_i h1 h2
      have hs1 : 0 < s.toInt := by
        have : s.toInt ≠ 0 := fun q => h2 (Int64.toInt_inj.mp (q.trans c0.symm))
        omega
      split
      · decide
      · rename_i h3
        have h0 := bdr_nn ht hs1
        generalize bd_r t s = r at h0 h3
        have e1 : (r * r).toInt = r.toInt * r.toInt := i64_mul ⟨by have := Int.mul_nonneg h0 h0; omega, by have : r.toInt * r.toInt ≤ 1290 * 1290 := Int.mul_le_mul (by omega) (by omega) h0 (by omega); omega⟩
        have q1 : 0 ≤ r.toInt * r.toInt := Int.mul_nonneg h0 h0
        have q2 : r.toInt * r.toInt ≤ 1664100 := by have : r.toInt * r.toInt ≤ 1290 * 1290 := Int.mul_le_mul (by omega) (by omega) h0 (by omega); omega
        have q3 : 0 ≤ r.toInt * r.toInt * r.toInt := Int.mul_nonneg q1 h0
        have q4 : r.toInt * r.toInt * r.toInt ≤ 2146689000 := by have : r.toInt * r.toInt * r.toInt ≤ 1664100 * 1290 := Int.mul_le_mul q2 (by omega) h0 (by omega); omega
        have e2 : (r * r * r).toInt = r.toInt * r.toInt * r.toInt := by rw [i64_mul (by rw [e1]; omega), e1]
        have e3 : (r * r * r + 131072).toInt = r.toInt * r.toInt * r.toInt + 131072 := by
          have c : (131072 : Int64).toInt = 131072 := by decide
          rw [i64_add (by rw [e2, c]; omega), e2, c]
        have c : (262144 : Int64).toInt = 262144 := by decide
        rw [i64_div (by rw [e3]; omega) (by decide), e3, c]
        omega
/-- b of the document, where it isn't AWFUL -/
def m_b (st : Nat → Int64) : Int64 := if (st 0 - st 1).toInt < 0 then (if st 4 = 0 ∧ st 5 = 0 ∧ st 6 = 0 then bd (-(st 0 - st 1)) (st 3) else 0) else bd (st 0 - st 1) (st 7)
def m_cost (st : Nat → Int64) (ins : Int64) (p : Int32) : Int64 := if (st 7).toInt < (st 0 - st 1).toInt ∨ 10000 ≤ ins.toInt then 1073741823 else if p = -10000 then p.toInt64 else if (m_b st).toInt < 10000 then m_b st + p.toInt64 + ins else 100000
theorem m_b_rng {st : Nat → Int64} (h0 : sm (st 0)) (h1 : sm (st 1)) (h3 : 0 ≤ (st 3).toInt) (h7 : 0 ≤ (st 7).toInt) : 0 ≤ (m_b st).toInt ∧ (m_b st).toInt ≤ 10000 := by
  have e : (st 0 - st 1).toInt = (st 0).toInt - (st 1).toInt := i64_sub (by unfold sm at h0 h1; omega)
  unfold m_b
  split
  · split
    · refine bd_rng ?_ h3
      rw [i64_neg (by rw [e]; unfold sm at h0 h1; omega)]
      omega
    · decide
  · exact bd_rng (by omega) h7
theorem s_costAt {B : Nat} {ad A : Nat → Nat} {sz bs : Nat} {hb bp p : Int32} {gd tp ins co : Int64} {VI VP : List Value} {st bst : Nat → Int64} {op cl : Nat → Int32} {σ : xW} {K : xK} (hd : drc σ.1 A sz hb gd tp ins co bs bp VI VP st bst op cl) (h0 : sm (st 0)) (h1 : sm (st 1)) (h3 : 0 ≤ (st 3).toInt) (h7 : 0 ≤ (st 7).toInt) (hp : -10000 ≤ p.toInt ∧ p.toInt ≤ 10000)
    (h : K (some (.long (m_cost st ins p))) σ) : x_cl (eX0_costAt B ad) [.ref (A 6), .int p] σ K := by
  obtain ⟨h6, -, -, hm, -⟩ := hd
  refine x_ev_of (by simp [x_sl, Value.category]) ?_
  show wX0_costAt B ad K 0 [.ref (A 6), .int p, .retAddr 0] [] σ
  simp only [eX0_costAt_0, eX0_costAt_1, eX0_costAt_4, eX0_costAt_7, eX0_costAt_8, eX0_costAt_9, eX0_costAt_11, eX0_costAt_14, eX0_costAt_15, eX0_costAt_18, eX0_costAt_21, eX0_costAt_22, eX0_costAt_25, eX0_costAt_28, eX0_costAt_29, eX0_costAt_30, eX0_costAt_33, eX0_costAt_36, eX0_costAt_37, eX0_costAt_38, eX0_costAt_39, eX0_costAt_40, eX0_costAt_43, eX0_costAt_46, eX0_costAt_47, eX0_costAt_48, eX0_costAt_49, eX0_costAt_50, eX0_costAt_51, eX0_costAt_54, eX0_costAt_55, eX0_costAt_58, eX0_costAt_61, List.getElem?_cons_zero, List.getElem?_cons_succ, Option.some.injEq, Value.int.injEq, Value.long.injEq, Value.ref.injEq, reduceCtorEq, exists_eq_left', exists_eq_left, exists_and_left, exists_and_right, and_assoc, and_true, true_and, true_or, or_true, x_rfv_ref, x_rfv_null, Prod.mk.injEq, List.set_cons_zero, List.set_cons_succ, List.length_cons, List.length_nil, Value.category, x_nl0, x_nl1, x_nl2, x_nl3, x_nl4, x_nl5, x_nl6, x_nl7, x_nl8, x_nl9, x_nl10, x_nl11, x_nl12, List.map_nil, List.map_cons, List.sum_nil, List.sum_cons, Option.toList_some, Option.toList_none, List.nil_append, List.cons_append, xl_lt, xl_gt, xl_eq, ↓reduceIte, Nat.reduceLT, Nat.reduceAdd, Nat.reduceLeDiff, x_up_self, x_uu, h6, x_clv hm.1]
  refine s_badnessHere hm h7 h3 ?_
  simp only [eX0_costAt_0, eX0_costAt_1, eX0_costAt_4, eX0_costAt_7, eX0_costAt_8, eX0_costAt_9, eX0_costAt_11, eX0_costAt_14, eX0_costAt_15, eX0_costAt_18, eX0_costAt_21, eX0_costAt_22, eX0_costAt_25, eX0_costAt_28, eX0_costAt_29, eX0_costAt_30, eX0_costAt_33, eX0_costAt_36, eX0_costAt_37, eX0_costAt_38, eX0_costAt_39, eX0_costAt_40, eX0_costAt_43, eX0_costAt_46, eX0_costAt_47, eX0_costAt_48, eX0_costAt_49, eX0_costAt_50, eX0_costAt_51, eX0_costAt_54, eX0_costAt_55, eX0_costAt_58, eX0_costAt_61, List.getElem?_cons_zero, List.getElem?_cons_succ, Option.some.injEq, Value.int.injEq, Value.long.injEq, Value.ref.injEq, reduceCtorEq, exists_eq_left', exists_eq_left, exists_and_left, exists_and_right, and_assoc, and_true, true_and, true_or, or_true, x_rfv_ref, x_rfv_null, Prod.mk.injEq, List.set_cons_zero, List.set_cons_succ, List.length_cons, List.length_nil, Value.category, x_nl0, x_nl1, x_nl2, x_nl3, x_nl4, x_nl5, x_nl6, x_nl7, x_nl8, x_nl9, x_nl10, x_nl11, x_nl12, List.map_nil, List.map_cons, List.sum_nil, List.sum_cons, Option.toList_some, Option.toList_none, List.nil_append, List.cons_append, xl_lt, xl_gt, xl_eq, ↓reduceIte, Nat.reduceLT, Nat.reduceAdd, Nat.reduceLeDiff, x_up_self, x_uu, lt0, ln0, lx0, lt1, ln1, lx1, lt2, ln2, lx2, lt3, ln3, lx3, lt4, ln4, lx4, lt5, ln5, lx5, lt6, ln6, lx6, lt7, ln7, lx7, lt8, ln8, lx8, lt9, ln9, lx9, lt10, ln10, lx10, lt11, ln11, lx11, lt12, ln12, lx12, lt13, ln13, lx13, lt14, ln14, lx14, lt15, ln15, lx15, lt16, ln16, lx16, lt17, ln17, lx17, lt18, ln18, lx18, lt19, ln19, lx19, lt20, ln20, lx20, lt21, ln21, lx21, lt22, ln22, lx22, lt23, ln23, lx23, lt24, ln24, lx24, la0, la1, la2, la3, la4, la5, la6, la7, la8, la9, la10, la11, la12, lb0, lb1, lb2, lb3, lb4, lb5, lb6, lb7, lb8, lb9, lb10, lb11, lb12, lt60, lt400, lt900, ltm1, ltm2, ltm4, ltm10000, lt10000, lt1000000, ltm1000000, lt10000000, lt2000, lt100000, Int.toNat_natCast, i1ne0, i0eq0, Int.reduceLT, Int.reduceLE, Int.reduceToNat, Int.reduceNeg, not_true, not_false_iff, false_imp_iff, true_imp_iff, imp_self, implies_true, Option.isSome_some, Bool.false_eq_true, h6, c1e4]
  unfold m_cost at h
  by_cases g1 : (st 7).toInt < (st 0 - st 1).toInt
  · simp only [g1, ↓reduceIte, true_or] at h ⊢; exact h
  · have e : (if (st 0 - st 1).toInt < 0 then if st 4 = 0 ∧ st 5 = 0 ∧ st 6 = 0 then (bd (-(st 0 - st 1)) (st 3)).toInt32 else 0 else (bd (st 0 - st 1) (st 7)).toInt32) = (m_b st).toInt32 := by
      unfold m_b
      split
      · split <;> rfl
      · rfl
    have rb := m_b_rng h0 h1 h3 h7
    simp only [g1, ↓reduceIte, false_or, e] at h ⊢
    generalize m_b st = b at rb h ⊢
    have eb : b.toInt32.toInt = b.toInt := i64_32 (by omega)
    rw [if_neg (by intro q; rw [q] at eb; have : (1073741823 : Int32).toInt = 1073741823 := by decide
                   omega)]
    by_cases g2 : ins.toInt < 10000
    · rw [if_pos g2]
      rw [if_neg (by omega)] at h
      by_cases g3 : p = -10000
      · rw [if_pos g3] at h ⊢; exact h
      · rw [if_neg g3] at h ⊢
        rw [eb]
        by_cases g4 : b.toInt < 10000
        · rw [if_pos g4] at h ⊢
          have e2 : (b.toInt32 + p).toInt64 = b + p.toInt64 := by
            apply Int64.toInt_inj.mp
            rw [i32_64, i32_add (by omega), i64_add (by rw [i32_64]; omega), i32_64, eb]
          rw [e2]
          exact h
        · rw [if_neg g4] at h ⊢; exact h
    · rw [if_neg g2]
      rw [if_pos (by omega)] at h
      exact h
set_option maxRecDepth 20000 in
theorem s_costAtM {B : Nat} {ad : Nat → Nat} {m s : Nat} {fs V : List Value} {p : Int32} {ins : Int64} {st : Nat → Int64} {σ : xW} {K : xK} (hm : σ.1 m = some (8, fs)) (hf : fs[24]? = some (.ref s) ∧ fs[27]? = some (.long ins)) (hs : σ.1 s = some (101, V)) (hV : ∀ i, i < 12 → V[i]? = some (.long (st i))) (h : K (some (.long (m_cost st ins p))) σ) : x_cl (eX8_costAt B ad) [.ref m, .int p] σ K := by
  refine x_ev_of (by simp [x_sl, Value.category]) ?_
  show wX8_costAt B ad K 0 [.ref m, .int p, .retAddr 0, .retAddr 0, .retAddr 0, .retAddr 0, .retAddr 0] [] σ
  simp only [eX8_costAt_0, eX8_costAt_1, eX8_costAt_4, eX8_costAt_5, eX8_costAt_6, eX8_costAt_7, eX8_costAt_10, eX8_costAt_11, eX8_costAt_12, eX8_costAt_13, eX8_costAt_14, eX8_costAt_15, eX8_costAt_16, eX8_costAt_19, eX8_costAt_21, eX8_costAt_22, eX8_costAt_23, eX8_costAt_26, eX8_costAt_27, eX8_costAt_30, eX8_costAt_33, eX8_costAt_34, eX8_costAt_37, eX8_costAt_40, eX8_costAt_41, eX8_costAt_42, eX8_costAt_45, eX8_costAt_48, eX8_costAt_49, eX8_costAt_50, eX8_costAt_51, eX8_costAt_52, eX8_costAt_55, eX8_costAt_56, eX8_costAt_57, eX8_costAt_58, eX8_costAt_59, eX8_costAt_62, eX8_costAt_63, eX8_costAt_66, eX8_costAt_67, eX8_costAt_68, eX8_costAt_69, eX8_costAt_70, eX8_costAt_73, eX8_costAt_74, eX8_costAt_77, eX8_costAt_79, eX8_costAt_80, eX8_costAt_81, eX8_costAt_82, eX8_costAt_85, eX8_costAt_86, eX8_costAt_89, eX8_costAt_90, eX8_costAt_92, eX8_costAt_93, eX8_costAt_94, eX8_costAt_95, eX8_costAt_98, eX8_costAt_99, eX8_costAt_100, eX8_costAt_103, eX8_costAt_105, eX8_costAt_106, eX8_costAt_109, eX8_costAt_112, eX8_costAt_114, eX8_costAt_117, eX8_costAt_118, eX8_costAt_121, eX8_costAt_122, eX8_costAt_123, eX8_costAt_124, eX8_costAt_127, eX8_costAt_128, eX8_costAt_129, eX8_costAt_132, eX8_costAt_134, eX8_costAt_136, eX8_costAt_139, eX8_costAt_140, eX8_costAt_143, eX8_costAt_145, eX8_costAt_146, eX8_costAt_147, eX8_costAt_148, eX8_costAt_149, eX8_costAt_152, eX8_costAt_153, eX8_costAt_156, eX8_costAt_159, List.getElem?_cons_zero, List.getElem?_cons_succ, Option.some.injEq, Value.int.injEq, Value.long.injEq, Value.ref.injEq, reduceCtorEq, exists_eq_left', exists_eq_left, exists_and_left, exists_and_right, and_assoc, and_true, true_and, true_or, or_true, x_rfv_ref, x_rfv_null, Prod.mk.injEq, List.set_cons_zero, List.set_cons_succ, List.length_cons, List.length_nil, Value.category, x_nl0, x_nl1, x_nl2, x_nl3, x_nl4, x_nl5, x_nl6, x_nl7, x_nl8, x_nl9, x_nl10, x_nl11, x_nl12, List.map_nil, List.map_cons, List.sum_nil, List.sum_cons, Option.toList_some, Option.toList_none, List.nil_append, List.cons_append, xl_lt, xl_gt, xl_eq, ↓reduceIte, Nat.reduceLT, Nat.reduceAdd, Nat.reduceLeDiff, x_up_self, x_uu, lt0, ln0, lx0, lt1, ln1, lx1, lt2, ln2, lx2, lt3, ln3, lx3, lt4, ln4, lx4, lt5, ln5, lx5, lt6, ln6, lx6, lt7, ln7, lx7, lt8, ln8, lx8, lt9, ln9, lx9, lt10, ln10, lx10, lt11, ln11, lx11, lt12, ln12, lx12, lt13, ln13, lx13, lt14, ln14, lx14, lt15, ln15, lx15, lt16, ln16, lx16, lt17, ln17, lx17, lt18, ln18, lx18, lt19, ln19, lx19, lt20, ln20, lx20, lt21, ln21, lx21, lt22, ln22, lx22, lt23, ln23, lx23, lt24, ln24, lx24, la0, la1, la2, la3, la4, la5, la6, la7, la8, la9, la10, la11, la12, lb0, lb1, lb2, lb3, lb4, lb5, lb6, lb7, lb8, lb9, lb10, lb11, lb12, lt60, lt400, lt900, ltm1, ltm2, ltm4, ltm10000, lt10000, lt1000000, ltm1000000, lt10000000, lt2000, lt100000, Int.toNat_natCast, i1ne0, i0eq0, Int.reduceLT, Int.reduceLE, Int.reduceToNat, Int.reduceNeg, not_true, not_false_iff, false_imp_iff, true_imp_iff, imp_self, implies_true, Option.isSome_some, Bool.false_eq_true, hm, hf.1, hf.2, hs, hV 0 (by decide), hV 1 (by decide), hV 3 (by decide), hV 4 (by decide), hV 5 (by decide), hV 6 (by decide), hV 7 (by decide), c1e4, c0, false_or]
  unfold m_cost at h
  by_cases g1 : (st 7).toInt < (st 0 - st 1).toInt
  · simp only [g1, ↓reduceIte, true_or] at h ⊢; exact h
  · by_cases g2 : ins.toInt < 10000
    · rw [if_neg (by omega)] at h
      simp only [g1, g2, ↓reduceIte]
      by_cases g3 : p = -10000
      · rw [if_pos g3] at h ⊢; exact h
      · rw [if_neg g3] at h ⊢
        have fin : ∀ (f : Int32) (b : Int64), m_b st = b → wX8_costAt B ad K 132 [.ref m, .int p, .long (st 0 - st 1), .retAddr 0, .int f, .retAddr 0, .retAddr 0] [.long b] σ := by
          intro f b hb
          rw [hb] at h
          simp only [eX8_costAt_132, eX8_costAt_134, eX8_costAt_136, eX8_costAt_139, eX8_costAt_140, eX8_costAt_143, eX8_costAt_145, eX8_costAt_146, eX8_costAt_147, eX8_costAt_148, eX8_costAt_149, eX8_costAt_152, eX8_costAt_153, eX8_costAt_156, eX8_costAt_159, List.getElem?_cons_zero, List.getElem?_cons_succ, Option.some.injEq, Value.int.injEq, Value.long.injEq, Value.ref.injEq, reduceCtorEq, exists_eq_left', exists_eq_left, exists_and_left, exists_and_right, and_assoc, and_true, true_and, true_or, or_true, x_rfv_ref, x_rfv_null, Prod.mk.injEq, List.set_cons_zero, List.set_cons_succ, List.length_cons, List.length_nil, Value.category, x_nl0, x_nl1, x_nl2, x_nl3, x_nl4, x_nl5, x_nl6, x_nl7, x_nl8, x_nl9, x_nl10, x_nl11, x_nl12, List.map_nil, List.map_cons, List.sum_nil, List.sum_cons, Option.toList_some, Option.toList_none, List.nil_append, List.cons_append, xl_lt, xl_gt, xl_eq, ↓reduceIte, Nat.reduceLT, Nat.reduceAdd, Nat.reduceLeDiff, x_up_self, x_uu, lt0, ln0, lx0, lt1, ln1, lx1, lt2, ln2, lx2, lt3, ln3, lx3, lt4, ln4, lx4, lt5, ln5, lx5, lt6, ln6, lx6, lt7, ln7, lx7, lt8, ln8, lx8, lt9, ln9, lx9, lt10, ln10, lx10, lt11, ln11, lx11, lt12, ln12, lx12, lt13, ln13, lx13, lt14, ln14, lx14, lt15, ln15, lx15, lt16, ln16, lx16, lt17, ln17, lx17, lt18, ln18, lx18, lt19, ln19, lx19, lt20, ln20, lx20, lt21, ln21, lx21, lt22, ln22, lx22, lt23, ln23, lx23, lt24, ln24, lx24, la0, la1, la2, la3, la4, la5, la6, la7, la8, la9, la10, la11, la12, lb0, lb1, lb2, lb3, lb4, lb5, lb6, lb7, lb8, lb9, lb10, lb11, lb12, lt60, lt400, lt900, ltm1, ltm2, ltm4, ltm10000, lt10000, lt1000000, ltm1000000, lt10000000, lt2000, lt100000, Int.toNat_natCast, i1ne0, i0eq0, Int.reduceLT, Int.reduceLE, Int.reduceToNat, Int.reduceNeg, not_true, not_false_iff, false_imp_iff, true_imp_iff, imp_self, implies_true, Option.isSome_some, Bool.false_eq_true, hm, hf.2, c1e4]
          by_cases g4 : b.toInt < 10000
          · rw [if_pos g4] at h ⊢; exact h
          · rw [if_neg g4] at h ⊢; exact h
        have f0 : ∀ f : Int32, ¬ (st 0 - st 1).toInt < 0 → x_cl (eX8_bad B ad) [Value.long (st 0 - st 1), Value.long (st 7)] σ fun v g => wX8_costAt B ad K 132 [.ref m, .int p, .long (st 0 - st 1), .retAddr 0, .int f, .retAddr 0, .retAddr 0] (v.toList ++ []) g :=
          fun f q => s_bad (fin f _ (by unfold m_b; rw [if_neg q]))
        have f1 : (st 0 - st 1).toInt < 0 → ¬ (st 4 = 0 ∧ st 5 = 0 ∧ st 6 = 0) → K (some (Value.long (0 + p.toInt64 + ins))) σ := by
          intro q1 q2
          have hb : m_b st = 0 := by unfold m_b; rw [if_pos q1, if_neg q2]
          rw [hb, if_pos (by decide)] at h
          exact h
        by_cases g5 : (st 0 - st 1).toInt < 0
        · simp only [g5, ↓reduceIte]
          split
          · split
            · split
              · exact s_bad (fin 0 _ (by unfold m_b; rw [if_pos g5, if_pos ⟨‹_›, ‹_›, ‹_›⟩]))
              · exact f1 g5 (fun q => absurd q.2.2 ‹_›)
            · exact f1 g5 (fun q => absurd q.2.1 ‹_›)
          · exact f1 g5 (fun q => absurd q.1 ‹_›)
        · simp only [g5, ↓reduceIte]
          split
          · split
            · split
              · exact f0 0 g5
              · exact f0 1 g5
            · exact f0 1 g5
          · exact f0 1 g5
    · rw [if_pos (by omega)] at h
      simp only [g1, g2, ↓reduceIte]
      exact h
