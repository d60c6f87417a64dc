/-! THE CLASS: Draft.putBox -/
def c_grow (st : Nat → Int64) (x y z : Int64) : Nat → Int64 := ups (ups st 0 (st 0 + (st 2 + x) + (if z.toInt < y.toInt then y - z else 0))) 2 (if z.toInt < y.toInt then z else y)
def c_box0 (st : Nat → Int64) (b : Bool) (tp : Int64) (v : Int32) : Nat → Int64 := if b = false ∧ v.toInt64.toInt < tp.toInt then ups st 0 (st 0 + (tp - v.toInt64)) else st
/-- Measure.grow, for the page's measure -/
theorem s_growD {B : Nat} {ad A : Nat → Nat} {sz bs : Nat} {hb bp : Int32} {gd tp ins co x y z : Int64} {VI VP : List Value} {st bst : Nat → Int64} {op cl : Nat → Int32} {σ : xW} {K : xK} (hA : ainj A) (hB : ∀ i, 6 ≤ i → i ≤ 16 → B ≤ A i) (hd : drc σ.1 A sz hb gd tp ins co bs bp VI VP st bst op cl) (h : ∀ w', drc w' A sz hb gd tp ins co bs bp VI VP (c_grow st x y z) bst op cl → frm A 6 16 σ.1 w' → K none (w', σ.2)) : x_cl (eX5_grow B ad) [.ref (A 9), .long x, .long y, .long z] σ K := by
  obtain ⟨h6, c7, c8, hm, c12, c13, ⟨a1, a2, a3⟩⟩ := id hd
  refine s_grow hm (hB 9 (by decide) (by decide)) ?_
  obtain ⟨m1, m2, m3⟩ := hm
  refine h _ ⟨?_, ?_, ?_, ⟨?_, ?_, ?_⟩, ?_, ?_, ⟨?_, ?_, ?_⟩⟩ fun q hq => x_up_ne _ _ (hq 9 (by decide) (by decide))
  · simp [x_upA hA, h6]
  · simp [x_upA hA, c7]
  · simp [x_upA hA, c8]
  · rw [x_up_self]; rfl
  · simp [x_upA hA, m2, c_grow, ups]
  · simp [x_upA hA, m3, c_grow, ups]
  · simp [x_upA hA, c12]
  · simp [x_upA hA, c13]
  · simp [x_upA hA, a1]
  · simp [x_upA hA, a2]
  · simp [x_upA hA, a3]
set_option maxRecDepth 20000 in
theorem s_putBoxC {B : Nat} {ad A : Nat → Nat} {sz bs i : Nat} {b : Bool} {bp : Int32} {gd tp ins co : Int64} {VI VP : List Value} {st bst : Nat → Int64} {op cl : Nat → Int32} {t : It} {lf we pl : Int32} {sd : Int64} {σ : xW} {K : xK} (hA : ainj A) (hB : ∀ i, 6 ≤ i → i ≤ 16 → B ≤ A i) (hd : drc σ.1 A sz (bz b) gd tp ins co bs bp VI VP st bst op cl) (h0 : σ.1 (A (100 + i)) = some (icell ad A i t lf we pl sd)) (h : ∀ w', drc w' A sz (bz true) gd tp ins co bs bp VI VP (c_grow (c_box0 st b tp (it_val t)) (it_val t).toInt64 (it_dep t).toInt64 gd) bst op cl → frm A 6 16 σ.1 w' → K none (w', σ.2)) : x_cl (eX0_putBox B ad) [.ref (A 6), .ref (A (100 + i))] σ K := by
  have b6 := hB 6 (by decide) (by decide)
  have b9 := hB 9 (by decide) (by decide)
  have n6 : ¬ (100 + i = 6) := by omega
  have n9 : ¬ (100 + i = 9) := by omega
  refine x_ev_of (by simp [x_sl, Value.category]) ?_
  show wX0_putBox B ad K 0 [.ref (A 6), .ref (A (100 + i))] [] σ
  have mid : ∀ (w1 : xM) (st1 : Nat → Int64), st1 = c_box0 st b tp (it_val t) → drc w1 A sz (bz b) gd tp ins co bs bp VI VP st1 bst op cl → frm A 6 16 σ.1 w1 → wX0_putBox B ad K 42 [.ref (A 6), .ref (A (100 + i))] [] (w1, σ.2) := by
    intro w1 st1 e d1 f1
    have h0' : w1 (A (100 + i)) = _ := (f1 _ (fun j j1 j2 e => by have := hA _ _ e; omega)).trans h0
    unfold icell at h0'
    obtain ⟨h6, c7, c8, ⟨m1, m2, m3⟩, c12, c13, ⟨a1, a2, a3⟩⟩ := id d1
    have m1' : ∀ e, x_up w1 (A 6) e (A 9) = some (5, [.long (st1 0), .long (st1 1), .long (st1 2), .long (st1 7), .ref (A 10), .ref (A 11)]) := fun e => by rw [x_upA hA, if_neg (by decide)]; exact m1
    simp only [eX0_putBox_42, eX0_putBox_43, eX0_putBox_44, eX0_putBox_47, eX0_putBox_48, eX0_putBox_51, eX0_putBox_52, eX0_putBox_55, eX0_putBox_56, eX0_putBox_57, eX0_putBox_60, eX0_putBox_61, eX0_putBox_62, List.getElem?_cons_zero, List.getElem?_cons_succ, Option.some.injEq, Value.int.injEq, Value.long.injEq, Value.ref.injEq, reduceCtorEq, exists_eq_left', exists_eq_left, exists_and_left, exists_and_right, and_assoc, and_true, true_and, true_or, or_true, x_rfv_ref, x_rfv_null, Prod.mk.injEq, List.set_cons_zero, List.set_cons_succ, List.length_cons, List.length_nil, Value.category, x_nl0, x_nl1, x_nl2, x_nl3, x_nl4, x_nl5, x_nl6, x_nl7, x_nl8, x_nl9, x_nl10, x_nl11, x_nl12, List.map_nil, List.map_cons, List.sum_nil, List.sum_cons, Option.toList_some, Option.toList_none, List.nil_append, List.cons_append, xl_lt, xl_gt, xl_eq, ↓reduceIte, Nat.reduceLT, Nat.reduceAdd, Nat.reduceLeDiff, x_up_self, x_uu, lt0, ln0, lx0, lt1, ln1, lx1, lt2, ln2, lx2, lt3, ln3, lx3, lt4, ln4, lx4, lt5, ln5, lx5, lt6, ln6, lx6, lt7, ln7, lx7, lt8, ln8, lx8, lt9, ln9, lx9, lt10, ln10, lx10, lt11, ln11, lx11, lt12, ln12, lx12, lt13, ln13, lx13, lt14, ln14, lx14, lt15, ln15, lx15, lt16, ln16, lx16, lt17, ln17, lx17, lt18, ln18, lx18, lt19, ln19, lx19, lt20, ln20, lx20, lt21, ln21, lx21, lt22, ln22, lx22, lt23, ln23, lx23, lt24, ln24, lx24, la0, la1, la2, la3, la4, la5, la6, la7, la8, la9, la10, la11, la12, lb0, lb1, lb2, lb3, lb4, lb5, lb6, lb7, lb8, lb9, lb10, lb11, lb12, lt60, lt400, lt900, ltm1, ltm2, ltm4, ltm10000, lt10000, lt1000000, ltm1000000, lt10000000, lt2000, lt100000, Int.toNat_natCast, i1ne0, i0eq0, Int.reduceLT, Int.reduceLE, Int.reduceToNat, Int.reduceNeg, not_true, not_false_iff, false_imp_iff, true_imp_iff, imp_self, implies_true, Option.isSome_some, Bool.false_eq_true, h6, h0', b6, x_upA hA, Nat.reduceEqDiff, n6]
    rw [eX0_putBox_65]
    refine ⟨by simp, ?_⟩
    rw [x_clvp (m1' _)]
    refine s_growD (sz := sz) (hb := bz true) (gd := gd) (tp := tp) (ins := ins) (co := co) (bs := bs) (bp := bp) (VI := VI) (VP := VP) (st := st1) (bst := bst) (op := op) (cl := cl) hA hB ⟨?_, ?_, ?_, ⟨?_, ?_, ?_⟩, ?_, ?_, ⟨?_, ?_, ?_⟩⟩ fun w' g1 g2 => ?_
    · exact (x_up_self _ _ _).trans rfl
    · simp [x_upA hA, c7]
    · simp [x_upA hA, c8]
    · simp [x_upA hA, m1]
    · simp [x_upA hA, m2]
    · simp [x_upA hA, m3]
    · simp [x_upA hA, c12]
    · simp [x_upA hA, c13]
    · simp [x_upA hA, a1]
    · simp [x_upA hA, a2]
    · simp [x_upA hA, a3]
    · simp only [eX0_putBox_68, List.getElem?_cons_zero, List.getElem?_cons_succ, Option.some.injEq, Value.int.injEq, Value.long.injEq, Value.ref.injEq, reduceCtorEq, exists_eq_left', exists_eq_left, exists_and_left, exists_and_right, and_assoc, and_true, true_and, true_or, or_true, x_rfv_ref, x_rfv_null, Prod.mk.injEq, List.set_cons_zero, List.set_cons_succ, List.length_cons, List.length_nil, Value.category, x_nl0, x_nl1, x_nl2, x_nl3, x_nl4, x_nl5, x_nl6, x_nl7, x_nl8, x_nl9, x_nl10, x_nl11, x_nl12, List.map_nil, List.map_cons, List.sum_nil, List.sum_cons, Option.toList_some, Option.toList_none, List.nil_append, List.cons_append, xl_lt, xl_gt, xl_eq, ↓reduceIte, Nat.reduceLT, Nat.reduceAdd, Nat.reduceLeDiff, x_up_self, x_uu, lt0, ln0, lx0, lt1, ln1, lx1, lt2, ln2, lx2, lt3, ln3, lx3, lt4, ln4, lx4, lt5, ln5, lx5, lt6, ln6, lx6, lt7, ln7, lx7, lt8, ln8, lx8, lt9, ln9, lx9, lt10, ln10, lx10, lt11, ln11, lx11, lt12, ln12, lx12, lt13, ln13, lx13, lt14, ln14, lx14, lt15, ln15, lx15, lt16, ln16, lx16, lt17, ln17, lx17, lt18, ln18, lx18, lt19, ln19, lx19, lt20, ln20, lx20, lt21, ln21, lx21, lt22, ln22, lx22, lt23, ln23, lx23, lt24, ln24, lx24, la0, la1, la2, la3, la4, la5, la6, la7, la8, la9, la10, la11, la12, lb0, lb1, lb2, lb3, lb4, lb5, lb6, lb7, lb8, lb9, lb10, lb11, lb12, lt60, lt400, lt900, ltm1, ltm2, ltm4, ltm10000, lt10000, lt1000000, ltm1000000, lt10000000, lt2000, lt100000, Int.toNat_natCast, i1ne0, i0eq0, Int.reduceLT, Int.reduceLE, Int.reduceToNat, Int.reduceNeg, not_true, not_false_iff, false_imp_iff, true_imp_iff, imp_self, implies_true, Option.isSome_some, Bool.false_eq_true]
      rw [e] at g1
      refine h w' g1 fun q hq => ?_
      rw [g2 q hq]
      dsimp only
      rw [x_up_ne _ _ (hq 6 (by decide) (by decide))]
      exact f1 q hq
  obtain ⟨h6, c7, c8, ⟨m1, m2, m3⟩, c12, c13, ⟨a1, a2, a3⟩⟩ := id hd
  unfold icell at h0
  unfold c_box0 at mid
  simp only [eX0_putBox_0, eX0_putBox_1, List.getElem?_cons_zero, List.getElem?_cons_succ, Option.some.injEq, Value.int.injEq, Value.long.injEq, Value.ref.injEq, reduceCtorEq, exists_eq_left', exists_eq_left, exists_and_left, exists_and_right, and_assoc, and_true, true_and, true_or, or_true, x_rfv_ref, x_rfv_null, Prod.mk.injEq, List.set_cons_zero, List.set_cons_succ, List.length_cons, List.length_nil, Value.category, x_nl0, x_nl1, x_nl2, x_nl3, x_nl4, x_nl5, x_nl6, x_nl7, x_nl8, x_nl9, x_nl10, x_nl11, x_nl12, List.map_nil, List.map_cons, List.sum_nil, List.sum_cons, Option.toList_some, Option.toList_none, List.nil_append, List.cons_append, xl_lt, xl_gt, xl_eq, ↓reduceIte, Nat.reduceLT, Nat.reduceAdd, Nat.reduceLeDiff, x_up_self, x_uu, lt0, ln0, lx0, lt1, ln1, lx1, lt2, ln2, lx2, lt3, ln3, lx3, lt4, ln4, lx4, lt5, ln5, lx5, lt6, ln6, lx6, lt7, ln7, lx7, lt8, ln8, lx8, lt9, ln9, lx9, lt10, ln10, lx10, lt11, ln11, lx11, lt12, ln12, lx12, lt13, ln13, lx13, lt14, ln14, lx14, lt15, ln15, lx15, lt16, ln16, lx16, lt17, ln17, lx17, lt18, ln18, lx18, lt19, ln19, lx19, lt20, ln20, lx20, lt21, ln21, lx21, lt22, ln22, lx22, lt23, ln23, lx23, lt24, ln24, lx24, la0, la1, la2, la3, la4, la5, la6, la7, la8, la9, la10, la11, la12, lb0, lb1, lb2, lb3, lb4, lb5, lb6, lb7, lb8, lb9, lb10, lb11, lb12, lt60, lt400, lt900, ltm1, ltm2, ltm4, ltm10000, lt10000, lt1000000, ltm1000000, lt10000000, lt2000, lt100000, Int.toNat_natCast, i1ne0, i0eq0, Int.reduceLT, Int.reduceLE, Int.reduceToNat, Int.reduceNeg, not_true, not_false_iff, false_imp_iff, true_imp_iff, imp_self, implies_true, Option.isSome_some, Bool.false_eq_true, h6]
  rw [eX0_putBox_4]
  cases b
  · rw [if_pos (show bz false = 0 from rfl)]
    simp only [eX0_putBox_7, eX0_putBox_8, eX0_putBox_11, eX0_putBox_12, eX0_putBox_13, eX0_putBox_16, eX0_putBox_17, List.getElem?_cons_zero, List.getElem?_cons_succ, Option.some.injEq, Value.int.injEq, Value.long.injEq, Value.ref.injEq, reduceCtorEq, exists_eq_left', exists_eq_left, exists_and_left, exists_and_right, and_assoc, and_true, true_and, true_or, or_true, x_rfv_ref, x_rfv_null, Prod.mk.injEq, List.set_cons_zero, List.set_cons_succ, List.length_cons, List.length_nil, Value.category, x_nl0, x_nl1, x_nl2, x_nl3, x_nl4, x_nl5, x_nl6, x_nl7, x_nl8, x_nl9, x_nl10, x_nl11, x_nl12, List.map_nil, List.map_cons, List.sum_nil, List.sum_cons, Option.toList_some, Option.toList_none, List.nil_append, List.cons_append, xl_lt, xl_gt, xl_eq, ↓reduceIte, Nat.reduceLT, Nat.reduceAdd, Nat.reduceLeDiff, x_up_self, x_uu, lt0, ln0, lx0, lt1, ln1, lx1, lt2, ln2, lx2, lt3, ln3, lx3, lt4, ln4, lx4, lt5, ln5, lx5, lt6, ln6, lx6, lt7, ln7, lx7, lt8, ln8, lx8, lt9, ln9, lx9, lt10, ln10, lx10, lt11, ln11, lx11, lt12, ln12, lx12, lt13, ln13, lx13, lt14, ln14, lx14, lt15, ln15, lx15, lt16, ln16, lx16, lt17, ln17, lx17, lt18, ln18, lx18, lt19, ln19, lx19, lt20, ln20, lx20, lt21, ln21, lx21, lt22, ln22, lx22, lt23, ln23, lx23, lt24, ln24, lx24, la0, la1, la2, la3, la4, la5, la6, la7, la8, la9, la10, la11, la12, lb0, lb1, lb2, lb3, lb4, lb5, lb6, lb7, lb8, lb9, lb10, lb11, lb12, lt60, lt400, lt900, ltm1, ltm2, ltm4, ltm10000, lt10000, lt1000000, ltm1000000, lt10000000, lt2000, lt100000, Int.toNat_natCast, i1ne0, i0eq0, Int.reduceLT, Int.reduceLE, Int.reduceToNat, Int.reduceNeg, not_true, not_false_iff, false_imp_iff, true_imp_iff, imp_self, implies_true, Option.isSome_some, Bool.false_eq_true, h6, h0]
    by_cases g : (it_val t).toInt64.toInt < tp.toInt
    · rw [if_pos g]
      rw [if_pos ⟨rfl, g⟩] at mid
      simp only [eX0_putBox_20, eX0_putBox_21, eX0_putBox_24, eX0_putBox_25, eX0_putBox_28, eX0_putBox_29, eX0_putBox_32, eX0_putBox_33, eX0_putBox_36, eX0_putBox_37, eX0_putBox_38, eX0_putBox_39, List.getElem?_cons_zero, List.getElem?_cons_succ, Option.some.injEq, Value.int.injEq, Value.long.injEq, Value.ref.injEq, reduceCtorEq, exists_eq_left', exists_eq_left, exists_and_left, exists_and_right, and_assoc, and_true, true_and, true_or, or_true, x_rfv_ref, x_rfv_null, Prod.mk.injEq, List.set_cons_zero, List.set_cons_succ, List.length_cons, List.length_nil, Value.category, x_nl0, x_nl1, x_nl2, x_nl3, x_nl4, x_nl5, x_nl6, x_nl7, x_nl8, x_nl9, x_nl10, x_nl11, x_nl12, List.map_nil, List.map_cons, List.sum_nil, List.sum_cons, Option.toList_some, Option.toList_none, List.nil_append, List.cons_append, xl_lt, xl_gt, xl_eq, ↓reduceIte, Nat.reduceLT, Nat.reduceAdd, Nat.reduceLeDiff, x_up_self, x_uu, lt0, ln0, lx0, lt1, ln1, lx1, lt2, ln2, lx2, lt3, ln3, lx3, lt4, ln4, lx4, lt5, ln5, lx5, lt6, ln6, lx6, lt7, ln7, lx7, lt8, ln8, lx8, lt9, ln9, lx9, lt10, ln10, lx10, lt11, ln11, lx11, lt12, ln12, lx12, lt13, ln13, lx13, lt14, ln14, lx14, lt15, ln15, lx15, lt16, ln16, lx16, lt17, ln17, lx17, lt18, ln18, lx18, lt19, ln19, lx19, lt20, ln20, lx20, lt21, ln21, lx21, lt22, ln22, lx22, lt23, ln23, lx23, lt24, ln24, lx24, la0, la1, la2, la3, la4, la5, la6, la7, la8, la9, la10, la11, la12, lb0, lb1, lb2, lb3, lb4, lb5, lb6, lb7, lb8, lb9, lb10, lb11, lb12, lt60, lt400, lt900, ltm1, ltm2, ltm4, ltm10000, lt10000, lt1000000, ltm1000000, lt10000000, lt2000, lt100000, Int.toNat_natCast, i1ne0, i0eq0, Int.reduceLT, Int.reduceLE, Int.reduceToNat, Int.reduceNeg, not_true, not_false_iff, false_imp_iff, true_imp_iff, imp_self, implies_true, Option.isSome_some, Bool.false_eq_true, h6, h0, m1, b9]
      refine mid _ _ rfl ⟨?_, ?_, ?_, ⟨?_, ?_, ?_⟩, ?_, ?_, ⟨?_, ?_, ?_⟩⟩ fun q hq => x_up_ne _ _ (hq 9 (by decide) (by decide))
      · simp [x_upA hA, h6]
      · simp [x_upA hA, c7]
      · simp [x_upA hA, c8]
      · rw [x_up_self]; rfl
      · simp [x_upA hA, m2, ups]
      · simp [x_upA hA, m3, ups]
      · simp [x_upA hA, c12]
      · simp [x_upA hA, c13]
      · simp [x_upA hA, a1]
      · simp [x_upA hA, a2]
      · simp [x_upA hA, a3]
    · rw [if_neg g]
      rw [if_neg (fun e => g e.2)] at mid
      exact mid σ.1 st rfl hd frm_rf
  · rw [if_neg (by decide)]
    rw [if_neg (fun e => by cases e.1)] at mid
    exact mid σ.1 st rfl hd frm_rf
