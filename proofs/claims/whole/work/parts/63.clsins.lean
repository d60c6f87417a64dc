/-! THE CLASS: Draft.putInsert, its last part -/
def ub32 (f : Nat → Int32) (c : Nat) : Nat → Int32 := fun j => if j = c then 1 else f j
def c_st (st : Nat → Int64) (k : Nat) (part f : Int32) : Nat → Int64 := ups (ups st (8 + k) (st (8 + k) + part.toInt64)) 1 (st 1 - part.toInt64 * f.toInt64 / 1000)
set_option maxRecDepth 20000 in
set_option maxHeartbeats 1000000 in
theorem ci_tail {B : Nat} {ad A : Nat → Nat} {sz bs i k : Nat} {hb bp : Int32} {gd tp ins co : Int64} {VI VP : List Value} {st bst : Nat → Int64} {op cl : Nat → Int32} {t : It} {lf we pl part : Int32} {sd : Int64} {ro f sk pe : Int32} {σ : xW} {K : xK} (hA : ainj A) (hB : ∀ i, 6 ≤ i → i ≤ 16 → B ≤ A i) (hk : k < 4) (hd : drc σ.1 A sz hb gd tp ins co bs bp VI VP st bst op cl) (h0 : σ.1 (A (100 + i)) = some (icell ad A i t lf we pl sd)) (hc : σ.1 (A (20 + k)) = some (2, [.int (nI k), .int ro, .int f, .int sk, .int pe]))
    (h : ∀ w', drc w' A sz hb gd tp (if part.toInt < lf.toInt then ins + pe.toInt64 else ins) co bs bp VI VP (c_st st k part f) bst op (if part.toInt < lf.toInt then ub32 cl k else cl) → frm A 6 16 σ.1 w' → K (some (.int part)) (w', σ.2)) : wX0_putInsert B ad K 62 [.ref (A 6), .ref (A (100 + i)), .ref (A (20 + k)), .int part] [] σ := by
  obtain ⟨h6, c7, c8, ⟨m1, m2, m3⟩, c12, c13, hab⟩ := id hd
  unfold icell at h0
  have b6 := hB 6 (by decide) (by decide)
  have b9 := hB 9 (by decide) (by decide)
  have b11 := hB 11 (by decide) (by decide)
  have b13 := hB 13 (by decide) (by decide)
  have n11 : ¬ (20 + k = 11) := by omega
  have n9 : ¬ (20 + k = 9) := by omega
  have n13 : ¬ (20 + k = 13) := by omega
  have i11 : ¬ (100 + i = 11) := by omega
  have i9 : ¬ (100 + i = 9) := by omega
  have hcc : k = 0 ∨ k = 1 ∨ k = 2 ∨ k = 3 := by omega
  have z8 := x_st4 (st := st) hk
  have s8 : ∀ v : Value, (x_ix (nI k) [Value.long (st 8), .long (st 9), .long (st 10), .long (st 11)]).isSome = true := fun _ => by rw [z8]; rfl
  simp only [eX0_putInsert_62, eX0_putInsert_63, eX0_putInsert_66, eX0_putInsert_69, eX0_putInsert_70, eX0_putInsert_73, eX0_putInsert_74, eX0_putInsert_75, eX0_putInsert_76, eX0_putInsert_77, eX0_putInsert_78, eX0_putInsert_79, eX0_putInsert_80, eX0_putInsert_83, eX0_putInsert_84, eX0_putInsert_87, eX0_putInsert_88, eX0_putInsert_89, eX0_putInsert_90, List.getElem?_cons_zero, List.getElem?_cons_succ, Option.some.injEq, Value.int.injEq, Value.long.injEq, Value.ref.injEq, reduceCtorEq, exists_eq_left', exists_eq_left, exists_and_left, exists_and_right, and_assoc, and_true, true_and, true_or, or_true, x_rfv_ref, x_rfv_null, Prod.mk.injEq, List.set_cons_zero, List.set_cons_succ, List.length_cons, List.length_nil, Value.category, x_nl0, x_nl1, x_nl2, x_nl3, x_nl4, x_nl5, x_nl6, x_nl7, x_nl8, x_nl9, x_nl10, x_nl11, x_nl12, List.map_nil, List.map_cons, List.sum_nil, List.sum_cons, Option.toList_some, Option.toList_none, List.nil_append, List.cons_append, xl_lt, xl_gt, xl_eq, ↓reduceIte, Nat.reduceLT, Nat.reduceAdd, Nat.reduceLeDiff, x_up_self, x_uu, lt0, ln0, lx0, lt1, ln1, lx1, lt2, ln2, lx2, lt3, ln3, lx3, lt4, ln4, lx4, lt5, ln5, lx5, lt6, ln6, lx6, lt7, ln7, lx7, lt8, ln8, lx8, lt9, ln9, lx9, lt10, ln10, lx10, lt11, ln11, lx11, lt12, ln12, lx12, lt13, ln13, lx13, lt14, ln14, lx14, lt15, ln15, lx15, lt16, ln16, lx16, lt17, ln17, lx17, lt18, ln18, lx18, lt19, ln19, lx19, lt20, ln20, lx20, lt21, ln21, lx21, lt22, ln22, lx22, lt23, ln23, lx23, lt24, ln24, lx24, la0, la1, la2, la3, la4, la5, la6, la7, la8, la9, la10, la11, la12, lb0, lb1, lb2, lb3, lb4, lb5, lb6, lb7, lb8, lb9, lb10, lb11, lb12, lt60, lt400, lt900, ltm1, ltm2, ltm4, ltm10000, lt10000, lt1000000, ltm1000000, lt10000000, lt2000, lt100000, Int.toNat_natCast, i1ne0, i0eq0, Int.reduceLT, Int.reduceLE, Int.reduceToNat, Int.reduceNeg, not_true, not_false_iff, false_imp_iff, true_imp_iff, imp_self, implies_true, Option.isSome_some, Bool.false_eq_true, h6, m1, m3, hc, z8, b11, x_upA hA, Nat.reduceEqDiff, n11, nI_nat (show k < 2 ^ 31 by omega)]
  have hc2 : ∀ e, x_up σ.1 (A 11) e (A (20 + k)) = some (2, [.int (nI k), .int ro, .int f, .int sk, .int pe]) := fun e => by rw [x_upA hA, if_neg n11]; exact hc
  rw [x_clvp (hc2 _)]
  refine s_byFactor (hc2 _) ?_
  simp only [eX0_putInsert_93, eX0_putInsert_94, eX0_putInsert_97, eX0_putInsert_98, eX0_putInsert_99, List.getElem?_cons_zero, List.getElem?_cons_succ, Option.some.injEq, Value.int.injEq, Value.long.injEq, Value.ref.injEq, reduceCtorEq, exists_eq_left', exists_eq_left, exists_and_left, exists_and_right, and_assoc, and_true, true_and, true_or, or_true, x_rfv_ref, x_rfv_null, Prod.mk.injEq, List.set_cons_zero, List.set_cons_succ, List.length_cons, List.length_nil, Value.category, x_nl0, x_nl1, x_nl2, x_nl3, x_nl4, x_nl5, x_nl6, x_nl7, x_nl8, x_nl9, x_nl10, x_nl11, x_nl12, List.map_nil, List.map_cons, List.sum_nil, List.sum_cons, Option.toList_some, Option.toList_none, List.nil_append, List.cons_append, xl_lt, xl_gt, xl_eq, ↓reduceIte, Nat.reduceLT, Nat.reduceAdd, Nat.reduceLeDiff, x_up_self, x_uu, lt0, ln0, lx0, lt1, ln1, lx1, lt2, ln2, lx2, lt3, ln3, lx3, lt4, ln4, lx4, lt5, ln5, lx5, lt6, ln6, lx6, lt7, ln7, lx7, lt8, ln8, lx8, lt9, ln9, lx9, lt10, ln10, lx10, lt11, ln11, lx11, lt12, ln12, lx12, lt13, ln13, lx13, lt14, ln14, lx14, lt15, ln15, lx15, lt16, ln16, lx16, lt17, ln17, lx17, lt18, ln18, lx18, lt19, ln19, lx19, lt20, ln20, lx20, lt21, ln21, lx21, lt22, ln22, lx22, lt23, ln23, lx23, lt24, ln24, lx24, la0, la1, la2, la3, la4, la5, la6, la7, la8, la9, la10, la11, la12, lb0, lb1, lb2, lb3, lb4, lb5, lb6, lb7, lb8, lb9, lb10, lb11, lb12, lt60, lt400, lt900, ltm1, ltm2, ltm4, ltm10000, lt10000, lt1000000, ltm1000000, lt10000000, lt2000, lt100000, Int.toNat_natCast, i1ne0, i0eq0, Int.reduceLT, Int.reduceLE, Int.reduceToNat, Int.reduceNeg, not_true, not_false_iff, false_imp_iff, true_imp_iff, imp_self, implies_true, Option.isSome_some, Bool.false_eq_true, h0, m1, b9, x_upA hA, Nat.reduceEqDiff, i11, i9]
  rw [eX0_putInsert_102]
  have s13 : (x_ix (nI k) [Value.int (cl 0), .int (cl 1), .int (cl 2), .int (cl 3)]).isSome = true := by
    rw [x_ix_nI (by omega), List.getElem?_eq_getElem (by simpa using hk)]; rfl
  have e11 : [Value.long (st 8), Value.long (st 9), Value.long (st 10), Value.long (st 11)].set k (.long (st (8 + k) + part.toInt64)) = [.long (c_st st k part f 8), .long (c_st st k part f 9), .long (c_st st k part f 10), .long (c_st st k part f 11)] := by
    rcases hcc with rfl | rfl | rfl | rfl <;> rfl
  have e13 : [Value.int (cl 0), Value.int (cl 1), Value.int (cl 2), Value.int (cl 3)].set k (.int 1) = [.int (ub32 cl k 0), .int (ub32 cl k 1), .int (ub32 cl k 2), .int (ub32 cl k 3)] := by
    rcases hcc with rfl | rfl | rfl | rfl <;> rfl
  have es : c_st st k part f 0 = st 0 ∧ c_st st k part f 1 = st 1 - part.toInt64 * f.toInt64 / 1000 ∧ c_st st k part f 2 = st 2 ∧ c_st st k part f 7 = st 7 ∧ c_st st k part f 3 = st 3 ∧ c_st st k part f 4 = st 4 ∧ c_st st k part f 5 = st 5 ∧ c_st st k part f 6 = st 6 := by
    rcases hcc with rfl | rfl | rfl | rfl <;> exact ⟨rfl, rfl, rfl, rfl, rfl, rfl, rfl, rfl⟩
  obtain ⟨es0, es1, es2, es7, es3, es4, es5, es6⟩ := es
  rw [e11]
  obtain ⟨a1, a2, a3⟩ := hab
  by_cases g : part.toInt < lf.toInt
  · rw [if_pos g]
    rw [if_pos g, if_pos g] at h
    simp only [eX0_putInsert_105, eX0_putInsert_106, eX0_putInsert_109, eX0_putInsert_110, eX0_putInsert_113, eX0_putInsert_114, eX0_putInsert_115, eX0_putInsert_116, eX0_putInsert_117, eX0_putInsert_120, eX0_putInsert_121, eX0_putInsert_124, eX0_putInsert_125, eX0_putInsert_126, eX0_putInsert_129, eX0_putInsert_130, List.getElem?_cons_zero, List.getElem?_cons_succ, Option.some.injEq, Value.int.injEq, Value.long.injEq, Value.ref.injEq, reduceCtorEq, exists_eq_left', exists_eq_left, exists_and_left, exists_and_right, and_assoc, and_true, true_and, true_or, or_true, x_rfv_ref, x_rfv_null, Prod.mk.injEq, List.set_cons_zero, List.set_cons_succ, List.length_cons, List.length_nil, Value.category, x_nl0, x_nl1, x_nl2, x_nl3, x_nl4, x_nl5, x_nl6, x_nl7, x_nl8, x_nl9, x_nl10, x_nl11, x_nl12, List.map_nil, List.map_cons, List.sum_nil, List.sum_cons, Option.toList_some, Option.toList_none, List.nil_append, List.cons_append, xl_lt, xl_gt, xl_eq, ↓reduceIte, Nat.reduceLT, Nat.reduceAdd, Nat.reduceLeDiff, x_up_self, x_uu, lt0, ln0, lx0, lt1, ln1, lx1, lt2, ln2, lx2, lt3, ln3, lx3, lt4, ln4, lx4, lt5, ln5, lx5, lt6, ln6, lx6, lt7, ln7, lx7, lt8, ln8, lx8, lt9, ln9, lx9, lt10, ln10, lx10, lt11, ln11, lx11, lt12, ln12, lx12, lt13, ln13, lx13, lt14, ln14, lx14, lt15, ln15, lx15, lt16, ln16, lx16, lt17, ln17, lx17, lt18, ln18, lx18, lt19, ln19, lx19, lt20, ln20, lx20, lt21, ln21, lx21, lt22, ln22, lx22, lt23, ln23, lx23, lt24, ln24, lx24, la0, la1, la2, la3, la4, la5, la6, la7, la8, la9, la10, la11, la12, lb0, lb1, lb2, lb3, lb4, lb5, lb6, lb7, lb8, lb9, lb10, lb11, lb12, lt60, lt400, lt900, ltm1, ltm2, ltm4, ltm10000, lt10000, lt1000000, ltm1000000, lt10000000, lt2000, lt100000, Int.toNat_natCast, i1ne0, i0eq0, Int.reduceLT, Int.reduceLE, Int.reduceToNat, Int.reduceNeg, not_true, not_false_iff, false_imp_iff, true_imp_iff, imp_self, implies_true, Option.isSome_some, Bool.false_eq_true, h6, hc, c13, b6, b13, s13, or_true, x_upA hA, Nat.reduceEqDiff, n11, n9, n13, nI_nat (show k < 2 ^ 31 by omega)]
    rw [e13]
    refine h _ ⟨?_, ?_, ?_, ⟨?_, ?_, ?_⟩, ?_, ?_, ⟨?_, ?_, ?_⟩⟩ fun q hq => ?_
    · simp [x_upA hA]
    · simp [x_upA hA, c7]
    · simp [x_upA hA, c8]
    · simp [x_upA hA, es0, es1, es2, es7]
    · simp [x_upA hA, m2, es3, es4, es5, es6]
    · simp [x_upA hA]
    · simp [x_upA hA, c12]
    · simp [x_upA hA]
    · simp [x_upA hA, a1]
    · simp [x_upA hA, a2]
    · simp [x_upA hA, a3]
    · have q6 := hq 6 (by decide) (by decide)
      have q9 := hq 9 (by decide) (by decide)
      have q11 := hq 11 (by decide) (by decide)
      have q13 := hq 13 (by decide) (by decide)
      simp [x_up, q6, q9, q11, q13]
  · rw [if_neg g]
    rw [if_neg g, if_neg g] at h
    simp only [eX0_putInsert_129, eX0_putInsert_130, List.getElem?_cons_zero, List.getElem?_cons_succ, Option.some.injEq, Value.int.injEq, Value.long.injEq, Value.ref.injEq, reduceCtorEq, exists_eq_left', exists_eq_left, exists_and_left, exists_and_right, and_assoc, and_true, true_and, true_or, or_true, x_rfv_ref, x_rfv_null, Prod.mk.injEq, List.set_cons_zero, List.set_cons_succ, List.length_cons, List.length_nil, Value.category, x_nl0, x_nl1, x_nl2, x_nl3, x_nl4, x_nl5, x_nl6, x_nl7, x_nl8, x_nl9, x_nl10, x_nl11, x_nl12, List.map_nil, List.map_cons, List.sum_nil, List.sum_cons, Option.toList_some, Option.toList_none, List.nil_append, List.cons_append, xl_lt, xl_gt, xl_eq, ↓reduceIte, Nat.reduceLT, Nat.reduceAdd, Nat.reduceLeDiff, x_up_self, x_uu, lt0, ln0, lx0, lt1, ln1, lx1, lt2, ln2, lx2, lt3, ln3, lx3, lt4, ln4, lx4, lt5, ln5, lx5, lt6, ln6, lx6, lt7, ln7, lx7, lt8, ln8, lx8, lt9, ln9, lx9, lt10, ln10, lx10, lt11, ln11, lx11, lt12, ln12, lx12, lt13, ln13, lx13, lt14, ln14, lx14, lt15, ln15, lx15, lt16, ln16, lx16, lt17, ln17, lx17, lt18, ln18, lx18, lt19, ln19, lx19, lt20, ln20, lx20, lt21, ln21, lx21, lt22, ln22, lx22, lt23, ln23, lx23, lt24, ln24, lx24, la0, la1, la2, la3, la4, la5, la6, la7, la8, la9, la10, la11, la12, lb0, lb1, lb2, lb3, lb4, lb5, lb6, lb7, lb8, lb9, lb10, lb11, lb12, lt60, lt400, lt900, ltm1, ltm2, ltm4, ltm10000, lt10000, lt1000000, ltm1000000, lt10000000, lt2000, lt100000, Int.toNat_natCast, i1ne0, i0eq0, Int.reduceLT, Int.reduceLE, Int.reduceToNat, Int.reduceNeg, not_true, not_false_iff, false_imp_iff, true_imp_iff, imp_self, implies_true, Option.isSome_some, Bool.false_eq_true]
    refine h _ ⟨?_, ?_, ?_, ⟨?_, ?_, ?_⟩, ?_, ?_, ⟨?_, ?_, ?_⟩⟩ fun q hq => ?_
    · simp [x_upA hA, h6]
    · simp [x_upA hA, c7]
    · simp [x_upA hA, c8]
    · simp [x_upA hA, es0, es1, es2, es7]
    · simp [x_upA hA, m2, es3, es4, es5, es6]
    · simp [x_upA hA]
    · simp [x_upA hA, c12]
    · simp [x_upA hA, c13]
    · simp [x_upA hA, a1]
    · simp [x_upA hA, a2]
    · simp [x_upA hA, a3]
    · have q9 := hq 9 (by decide) (by decide)
      have q11 := hq 11 (by decide) (by decide)
      simp [x_up, q9, q11]
