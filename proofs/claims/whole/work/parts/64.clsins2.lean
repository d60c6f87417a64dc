/-! THE CLASS: Draft.putInsert, whole -/
def c_op (st : Nat → Int64) (o : Nat → Bool) (k : Nat) (sk : Int32) : Nat → Int64 := if o k then st else ups st 1 (st 1 - sk.toInt64)
def c_part (st : Nat → Int64) (c : Nat → Bool) (k : Nat) (h f ro cu : Int32) : Int32 := if c k then 0 else c_fit st k h f ro cu
theorem x_b4 {f : Nat → Bool} {k : Nat} (hk : k < 4) : x_ix (nI k) [Value.int (bz (f 0)), .int (bz (f 1)), .int (bz (f 2)), .int (bz (f 3))] = some (.int (bz (f k))) := by
  rw [x_ix_nI (by omega)]
  match k, hk with
  | 0, _ => rfl
  | 1, _ => rfl
  | 2, _ => rfl
  | 3, _ => rfl
theorem ub_same {f : Nat → Bool} {k : Nat} (h : f k = true) : ub f k = f := by
  funext j
  unfold ub
  by_cases e : j = k
  · rw [if_pos e, e, h]
  · rw [if_neg e]
set_option maxRecDepth 20000 in
set_option maxHeartbeats 1000000 in
theorem s_putInsertC {B : Nat} {ad A : Nat → Nat} {sz bs i k : Nat} {hb bp : Int32} {gd tp ins co : Int64} {VI VP : List Value} {st bst : Nat → Int64} {o c : Nat → Bool} {t : It} {lf we pl : Int32} {sd : Int64} {ro f sk pe : Int32} {σ : xW} {K : xK} (hA : ainj A) (hB : ∀ i, 6 ≤ i → i ≤ 16 → B ≤ A i) (hk : k < 4) (hd : drc σ.1 A sz hb gd tp ins co bs bp VI VP st bst (fun j => bz (o j)) (fun j => bz (c j))) (h0 : σ.1 (A (100 + i)) = some (icell ad A i t lf we pl sd)) (hc : σ.1 (A (20 + k)) = some (2, [.int (nI k), .int ro, .int f, .int sk, .int pe]))
    (h : ∀ (w' : xM) (part : Int32), part = c_part (c_op st o k sk) c k lf f ro (it_cut t) → drc w' A sz hb gd tp (if part.toInt < lf.toInt then ins + pe.toInt64 else ins) co bs bp VI VP (c_st (c_op st o k sk) k part f) bst (fun j => bz (ub o k j)) (if part.toInt < lf.toInt then ub32 (fun j => bz (c j)) k else fun j => bz (c j)) → frm A 6 16 σ.1 w' → K (some (.int part)) (w', σ.2)) : x_cl (eX0_putInsert B ad) [.ref (A 6), .ref (A (100 + i)), .ref (A (20 + k))] σ K := by
  obtain ⟨h6, c7, c8, ⟨m1, m2, m3⟩, c12, c13, ⟨a1, a2, a3⟩⟩ := id hd
  have b9 := hB 9 (by decide) (by decide)
  have b12 := hB 12 (by decide) (by decide)
  have zo := x_b4 (f := o) hk
  have zc := x_b4 (f := c) hk
  refine x_ev_of (by simp [x_sl, Value.category]) ?_
  show wX0_putInsert B ad K 0 [.ref (A 6), .ref (A (100 + i)), .ref (A (20 + k)), .retAddr 0] [] σ
  have mid : ∀ w1 : xM, drc w1 A sz hb gd tp ins co bs bp VI VP (c_op st o k sk) bst (fun j => bz (ub o k j)) (fun j => bz (c j)) → frm A 6 16 σ.1 w1 → wX0_putInsert B ad K 39 [.ref (A 6), .ref (A (100 + i)), .ref (A (20 + k)), .retAddr 0] [] (w1, σ.2) := by
    intro w1 d1 f1
    have h0' : w1 (A (100 + i)) = _ := (f1 _ (fun j j1 j2 e => by have := hA _ _ e; omega)).trans h0
    have hc' : w1 (A (20 + k)) = _ := (f1 _ (fun j j1 j2 e => by have := hA _ _ e; omega)).trans hc
    obtain ⟨h6, -, -, -, -, c13, -⟩ := id d1
    have tl : ∀ part : Int32, part = c_part (c_op st o k sk) c k lf f ro (it_cut t) → wX0_putInsert B ad K 61 [.ref (A 6), .ref (A (100 + i)), .ref (A (20 + k)), .retAddr 0] [.int part] (w1, σ.2) := by
      intro part hp
      simp only [eX0_putInsert_61, List.getElem?_cons_zero, List.getElem?_cons_succ, Option.some.injEq, Value.int.injEq, Value.long.injEq, Value.ref.injEq, reduceCtorEq, exists_eq_left', exists_eq_left, exists_and_left, exists_and_right, and_assoc, and_true, true_and, true_or, or_true, x_rfv_ref, x_rfv_null, Prod.mk.injEq, List.set_cons_zero, List.set_cons_succ, List.length_cons, List.length_nil, Value.category, x_nl0, x_nl1, x_nl2, x_nl3, x_nl4, x_nl5, x_nl6, x_nl7, x_nl8, x_nl9, x_nl10, x_nl11, x_nl12, List.map_nil, List.map_cons, List.sum_nil, List.sum_cons, Option.toList_some, Option.toList_none, List.nil_append, List.cons_append, xl_lt, xl_gt, xl_eq, ↓reduceIte, Nat.reduceLT, Nat.reduceAdd, Nat.reduceLeDiff, x_up_self, x_uu, lt0, ln0, lx0, lt1, ln1, lx1, lt2, ln2, lx2, lt3, ln3, lx3, lt4, ln4, lx4, lt5, ln5, lx5, lt6, ln6, lx6, lt7, ln7, lx7, lt8, ln8, lx8, lt9, ln9, lx9, lt10, ln10, lx10, lt11, ln11, lx11, lt12, ln12, lx12, lt13, ln13, lx13, lt14, ln14, lx14, lt15, ln15, lx15, lt16, ln16, lx16, lt17, ln17, lx17, lt18, ln18, lx18, lt19, ln19, lx19, lt20, ln20, lx20, lt21, ln21, lx21, lt22, ln22, lx22, lt23, ln23, lx23, lt24, ln24, lx24, la0, la1, la2, la3, la4, la5, la6, la7, la8, la9, la10, la11, la12, lb0, lb1, lb2, lb3, lb4, lb5, lb6, lb7, lb8, lb9, lb10, lb11, lb12, lt60, lt400, lt900, ltm1, ltm2, ltm4, ltm10000, lt10000, lt1000000, ltm1000000, lt10000000, lt2000, lt100000, Int.toNat_natCast, i1ne0, i0eq0, Int.reduceLT, Int.reduceLE, Int.reduceToNat, Int.reduceNeg, not_true, not_false_iff, false_imp_iff, true_imp_iff, imp_self, implies_true, Option.isSome_some, Bool.false_eq_true]
      exact ci_tail hA hB hk d1 h0' hc' fun w' g1 g2 => h w' part hp g1 (fun q hq => (g2 q hq).trans (f1 q hq))
    simp only [eX0_putInsert_39, eX0_putInsert_40, eX0_putInsert_43, eX0_putInsert_44, eX0_putInsert_47, List.getElem?_cons_zero, List.getElem?_cons_succ, Option.some.injEq, Value.int.injEq, Value.long.injEq, Value.ref.injEq, reduceCtorEq, exists_eq_left', exists_eq_left, exists_and_left, exists_and_right, and_assoc, and_true, true_and, true_or, or_true, x_rfv_ref, x_rfv_null, Prod.mk.injEq, List.set_cons_zero, List.set_cons_succ, List.length_cons, List.length_nil, Value.category, x_nl0, x_nl1, x_nl2, x_nl3, x_nl4, x_nl5, x_nl6, x_nl7, x_nl8, x_nl9, x_nl10, x_nl11, x_nl12, List.map_nil, List.map_cons, List.sum_nil, List.sum_cons, Option.toList_some, Option.toList_none, List.nil_append, List.cons_append, xl_lt, xl_gt, xl_eq, ↓reduceIte, Nat.reduceLT, Nat.reduceAdd, Nat.reduceLeDiff, x_up_self, x_uu, lt0, ln0, lx0, lt1, ln1, lx1, lt2, ln2, lx2, lt3, ln3, lx3, lt4, ln4, lx4, lt5, ln5, lx5, lt6, ln6, lx6, lt7, ln7, lx7, lt8, ln8, lx8, lt9, ln9, lx9, lt10, ln10, lx10, lt11, ln11, lx11, lt12, ln12, lx12, lt13, ln13, lx13, lt14, ln14, lx14, lt15, ln15, lx15, lt16, ln16, lx16, lt17, ln17, lx17, lt18, ln18, lx18, lt19, ln19, lx19, lt20, ln20, lx20, lt21, ln21, lx21, lt22, ln22, lx22, lt23, ln23, lx23, lt24, ln24, lx24, la0, la1, la2, la3, la4, la5, la6, la7, la8, la9, la10, la11, la12, lb0, lb1, lb2, lb3, lb4, lb5, lb6, lb7, lb8, lb9, lb10, lb11, lb12, lt60, lt400, lt900, ltm1, ltm2, ltm4, ltm10000, lt10000, lt1000000, ltm1000000, lt10000000, lt2000, lt100000, Int.toNat_natCast, i1ne0, i0eq0, Int.reduceLT, Int.reduceLE, Int.reduceToNat, Int.reduceNeg, not_true, not_false_iff, false_imp_iff, true_imp_iff, imp_self, implies_true, Option.isSome_some, Bool.false_eq_true, h6, hc', c13, zc]
    rw [eX0_putInsert_48]
    unfold c_part at tl
    cases hcl : c k
    · rw [if_pos (show bz false = 0 from rfl)]
      rw [hcl] at tl
      simp only [eX0_putInsert_55, eX0_putInsert_56, eX0_putInsert_57, eX0_putInsert_58, List.getElem?_cons_zero, List.getElem?_cons_succ, Option.some.injEq, Value.int.injEq, Value.long.injEq, Value.ref.injEq, reduceCtorEq, exists_eq_left', exists_eq_left, exists_and_left, exists_and_right, and_assoc, and_true, true_and, true_or, or_true, x_rfv_ref, x_rfv_null, Prod.mk.injEq, List.set_cons_zero, List.set_cons_succ, List.length_cons, List.length_nil, Value.category, x_nl0, x_nl1, x_nl2, x_nl3, x_nl4, x_nl5, x_nl6, x_nl7, x_nl8, x_nl9, x_nl10, x_nl11, x_nl12, List.map_nil, List.map_cons, List.sum_nil, List.sum_cons, Option.toList_some, Option.toList_none, List.nil_append, List.cons_append, xl_lt, xl_gt, xl_eq, ↓reduceIte, Nat.reduceLT, Nat.reduceAdd, Nat.reduceLeDiff, x_up_self, x_uu, lt0, ln0, lx0, lt1, ln1, lx1, lt2, ln2, lx2, lt3, ln3, lx3, lt4, ln4, lx4, lt5, ln5, lx5, lt6, ln6, lx6, lt7, ln7, lx7, lt8, ln8, lx8, lt9, ln9, lx9, lt10, ln10, lx10, lt11, ln11, lx11, lt12, ln12, lx12, lt13, ln13, lx13, lt14, ln14, lx14, lt15, ln15, lx15, lt16, ln16, lx16, lt17, ln17, lx17, lt18, ln18, lx18, lt19, ln19, lx19, lt20, ln20, lx20, lt21, ln21, lx21, lt22, ln22, lx22, lt23, ln23, lx23, lt24, ln24, lx24, la0, la1, la2, la3, la4, la5, la6, la7, la8, la9, la10, la11, la12, lb0, lb1, lb2, lb3, lb4, lb5, lb6, lb7, lb8, lb9, lb10, lb11, lb12, lt60, lt400, lt900, ltm1, ltm2, ltm4, ltm10000, lt10000, lt1000000, ltm1000000, lt10000000, lt2000, lt100000, Int.toNat_natCast, i1ne0, i0eq0, Int.reduceLT, Int.reduceLE, Int.reduceToNat, Int.reduceNeg, not_true, not_false_iff, false_imp_iff, true_imp_iff, imp_self, implies_true, Option.isSome_some, Bool.false_eq_true, x_clvp h6]
      exact s_fit hk d1 h0' hc' (tl _ rfl)
    · rw [if_neg (by decide)]
      rw [hcl] at tl
      simp only [eX0_putInsert_51, eX0_putInsert_52, List.getElem?_cons_zero, List.getElem?_cons_succ, Option.some.injEq, Value.int.injEq, Value.long.injEq, Value.ref.injEq, reduceCtorEq, exists_eq_left', exists_eq_left, exists_and_left, exists_and_right, and_assoc, and_true, true_and, true_or, or_true, x_rfv_ref, x_rfv_null, Prod.mk.injEq, List.set_cons_zero, List.set_cons_succ, List.length_cons, List.length_nil, Value.category, x_nl0, x_nl1, x_nl2, x_nl3, x_nl4, x_nl5, x_nl6, x_nl7, x_nl8, x_nl9, x_nl10, x_nl11, x_nl12, List.map_nil, List.map_cons, List.sum_nil, List.sum_cons, Option.toList_some, Option.toList_none, List.nil_append, List.cons_append, xl_lt, xl_gt, xl_eq, ↓reduceIte, Nat.reduceLT, Nat.reduceAdd, Nat.reduceLeDiff, x_up_self, x_uu, lt0, ln0, lx0, lt1, ln1, lx1, lt2, ln2, lx2, lt3, ln3, lx3, lt4, ln4, lx4, lt5, ln5, lx5, lt6, ln6, lx6, lt7, ln7, lx7, lt8, ln8, lx8, lt9, ln9, lx9, lt10, ln10, lx10, lt11, ln11, lx11, lt12, ln12, lx12, lt13, ln13, lx13, lt14, ln14, lx14, lt15, ln15, lx15, lt16, ln16, lx16, lt17, ln17, lx17, lt18, ln18, lx18, lt19, ln19, lx19, lt20, ln20, lx20, lt21, ln21, lx21, lt22, ln22, lx22, lt23, ln23, lx23, lt24, ln24, lx24, la0, la1, la2, la3, la4, la5, la6, la7, la8, la9, la10, la11, la12, lb0, lb1, lb2, lb3, lb4, lb5, lb6, lb7, lb8, lb9, lb10, lb11, lb12, lt60, lt400, lt900, ltm1, ltm2, ltm4, ltm10000, lt10000, lt1000000, ltm1000000, lt10000000, lt2000, lt100000, Int.toNat_natCast, i1ne0, i0eq0, Int.reduceLT, Int.reduceLE, Int.reduceToNat, Int.reduceNeg, not_true, not_false_iff, false_imp_iff, true_imp_iff, imp_self, implies_true, Option.isSome_some, Bool.false_eq_true]
      exact tl 0 rfl
  unfold c_op at mid
  simp only [eX0_putInsert_0, eX0_putInsert_1, eX0_putInsert_4, eX0_putInsert_5, eX0_putInsert_8, List.getElem?_cons_zero, List.getElem?_cons_succ, Option.some.injEq, Value.int.injEq, Value.long.injEq, Value.ref.injEq, reduceCtorEq, exists_eq_left', exists_eq_left, exists_and_left, exists_and_right, and_assoc, and_true, true_and, true_or, or_true, x_rfv_ref, x_rfv_null, Prod.mk.injEq, List.set_cons_zero, List.set_cons_succ, List.length_cons, List.length_nil, Value.category, x_nl0, x_nl1, x_nl2, x_nl3, x_nl4, x_nl5, x_nl6, x_nl7, x_nl8, x_nl9, x_nl10, x_nl11, x_nl12, List.map_nil, List.map_cons, List.sum_nil, List.sum_cons, Option.toList_some, Option.toList_none, List.nil_append, List.cons_append, xl_lt, xl_gt, xl_eq, ↓reduceIte, Nat.reduceLT, Nat.reduceAdd, Nat.reduceLeDiff, x_up_self, x_uu, lt0, ln0, lx0, lt1, ln1, lx1, lt2, ln2, lx2, lt3, ln3, lx3, lt4, ln4, lx4, lt5, ln5, lx5, lt6, ln6, lx6, lt7, ln7, lx7, lt8, ln8, lx8, lt9, ln9, lx9, lt10, ln10, lx10, lt11, ln11, lx11, lt12, ln12, lx12, lt13, ln13, lx13, lt14, ln14, lx14, lt15, ln15, lx15, lt16, ln16, lx16, lt17, ln17, lx17, lt18, ln18, lx18, lt19, ln19, lx19, lt20, ln20, lx20, lt21, ln21, lx21, lt22, ln22, lx22, lt23, ln23, lx23, lt24, ln24, lx24, la0, la1, la2, la3, la4, la5, la6, la7, la8, la9, la10, la11, la12, lb0, lb1, lb2, lb3, lb4, lb5, lb6, lb7, lb8, lb9, lb10, lb11, lb12, lt60, lt400, lt900, ltm1, ltm2, ltm4, ltm10000, lt10000, lt1000000, ltm1000000, lt10000000, lt2000, lt100000, Int.toNat_natCast, i1ne0, i0eq0, Int.reduceLT, Int.reduceLE, Int.reduceToNat, Int.reduceNeg, not_true, not_false_iff, false_imp_iff, true_imp_iff, imp_self, implies_true, Option.isSome_some, Bool.false_eq_true, h6, hc, c12, zo]
  rw [eX0_putInsert_9]
  have n12 : ¬ (20 + k = 12) := by omega
  have n9 : ¬ (20 + k = 9) := by omega
  cases ho : o k
  · rw [if_pos (show bz false = 0 from rfl)]
    rw [ho] at mid
    have hcc : k = 0 ∨ k = 1 ∨ k = 2 ∨ k = 3 := by omega
    have e12 : [Value.int (bz (o 0)), Value.int (bz (o 1)), Value.int (bz (o 2)), Value.int (bz (o 3))].set k (.int 1) = [.int (bz (ub o k 0)), .int (bz (ub o k 1)), .int (bz (ub o k 2)), .int (bz (ub o k 3))] := by
      rcases hcc with rfl | rfl | rfl | rfl <;> rfl
    simp only [eX0_putInsert_12, eX0_putInsert_13, eX0_putInsert_16, eX0_putInsert_17, eX0_putInsert_20, eX0_putInsert_21, eX0_putInsert_22, eX0_putInsert_23, eX0_putInsert_26, eX0_putInsert_27, eX0_putInsert_30, eX0_putInsert_31, eX0_putInsert_34, eX0_putInsert_35, eX0_putInsert_36, List.getElem?_cons_zero, List.getElem?_cons_succ, Option.some.injEq, Value.int.injEq, Value.long.injEq, Value.ref.injEq, reduceCtorEq, exists_eq_left', exists_eq_left, exists_and_left, exists_and_right, and_assoc, and_true, true_and, true_or, or_true, x_rfv_ref, x_rfv_null, Prod.mk.injEq, List.set_cons_zero, List.set_cons_succ, List.length_cons, List.length_nil, Value.category, x_nl0, x_nl1, x_nl2, x_nl3, x_nl4, x_nl5, x_nl6, x_nl7, x_nl8, x_nl9, x_nl10, x_nl11, x_nl12, List.map_nil, List.map_cons, List.sum_nil, List.sum_cons, Option.toList_some, Option.toList_none, List.nil_append, List.cons_append, xl_lt, xl_gt, xl_eq, ↓reduceIte, Nat.reduceLT, Nat.reduceAdd, Nat.reduceLeDiff, x_up_self, x_uu, lt0, ln0, lx0, lt1, ln1, lx1, lt2, ln2, lx2, lt3, ln3, lx3, lt4, ln4, lx4, lt5, ln5, lx5, lt6, ln6, lx6, lt7, ln7, lx7, lt8, ln8, lx8, lt9, ln9, lx9, lt10, ln10, lx10, lt11, ln11, lx11, lt12, ln12, lx12, lt13, ln13, lx13, lt14, ln14, lx14, lt15, ln15, lx15, lt16, ln16, lx16, lt17, ln17, lx17, lt18, ln18, lx18, lt19, ln19, lx19, lt20, ln20, lx20, lt21, ln21, lx21, lt22, ln22, lx22, lt23, ln23, lx23, lt24, ln24, lx24, la0, la1, la2, la3, la4, la5, la6, la7, la8, la9, la10, la11, la12, lb0, lb1, lb2, lb3, lb4, lb5, lb6, lb7, lb8, lb9, lb10, lb11, lb12, lt60, lt400, lt900, ltm1, ltm2, ltm4, ltm10000, lt10000, lt1000000, ltm1000000, lt10000000, lt2000, lt100000, Int.toNat_natCast, i1ne0, i0eq0, Int.reduceLT, Int.reduceLE, Int.reduceToNat, Int.reduceNeg, not_true, not_false_iff, false_imp_iff, true_imp_iff, imp_self, implies_true, Option.isSome_some, Bool.false_eq_true, h6, hc, c12, m1, zo, b9, b12, or_true, x_upA hA, Nat.reduceEqDiff, n12, nI_nat (show k < 2 ^ 31 by omega)]
    rw [e12]
    refine mid _ ⟨?_, ?_, ?_, ⟨?_, ?_, ?_⟩, ?_, ?_, ⟨?_, ?_, ?_⟩⟩ fun q hq => ?_
    · simp [x_upA hA, h6]
    · simp [x_upA hA, c7]
    · simp [x_upA hA, c8]
    · simp [x_upA hA, ups]
    · simp [x_upA hA, m2, ups]
    · simp [x_upA hA, m3, ups]
    · simp [x_upA hA]
    · simp [x_upA hA, c13]
    · simp [x_upA hA, a1]
    · simp [x_upA hA, a2]
    · simp [x_upA hA, a3]
    · have q9 := hq 9 (by decide) (by decide)
      have q12 := hq 12 (by decide) (by decide)
      simp [x_up, q9, q12]
  · rw [if_neg (by decide)]
    rw [ho, ub_same ho] at mid
    exact mid σ.1 hd frm_rf
