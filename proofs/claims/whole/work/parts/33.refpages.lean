/-! THE REFERENCE: what it tells of pages -/
theorem apre_n {V : List Value} {N n : Nat} {f : Nat → Value} (h : apre V N n f) : n ≤ N := by
  rcases Nat.lt_or_ge N n with q | q
  · have := (List.getElem?_eq_some_iff.mp (h.2 N q)).1
    rw [h.1] at this
    omega
  · exact q
theorem pg_b_succ {P : List PG} {p : Nat} (h : p < P.length) : pg_b P (p + 1) = pg_b P p + (pg_at P p).1.length := by
  unfold pg_b pg_n pg_at
  rw [List.take_add_one, List.getElem?_eq_getElem h, List.map_append, List.sum_append, List.getD_eq_getElem?_getD, List.getElem?_eq_getElem h]
  simp
theorem pg_b_le {P : List PG} {p : Nat} (h : p < P.length) : pg_b P p + (pg_at P p).1.length ≤ pg_n P := by
  rw [← pg_b_succ h]
  unfold pg_b pg_n
  conv => rhs; rw [← List.take_append_drop (p + 1) P]
  rw [List.map_append, List.sum_append]
  omega
theorem pg_it_get : ∀ {P : List PG} {p i : Nat}, p < P.length → i < (pg_at P p).1.length → (pg_it P).getD (pg_b P p + i) (0, 0) = (pg_at P p).1.getD i (0, 0)
  | [], p, i, h, _ => by simp at h
  | q :: P, 0, i, _, hi => by
    have hi : i < q.1.length := hi
    show (q.1 ++ pg_it P).getD (0 + i) (0, 0) = q.1.getD i (0, 0)
    rw [Nat.zero_add, List.getD_eq_getElem?_getD, List.getElem?_append_left hi, List.getD_eq_getElem?_getD]
  | q :: P, p + 1, i, h, hi => by
    have e : pg_b (q :: P) (p + 1) = q.1.length + pg_b P p := by
      unfold pg_b pg_n
      simp
    have e2 : pg_at (q :: P) (p + 1) = pg_at P p := rfl
    rw [e2] at hi ⊢
    rw [← pg_it_get (P := P) (by simpa using h) hi, e]
    show (q.1 ++ pg_it P).getD _ (0, 0) = _
    rw [List.getD_eq_getElem?_getD, List.getElem?_append_right (by omega), List.getD_eq_getElem?_getD]
    congr 2
    omega
/-- the number of a page, or that there is none -/
theorem pg_case (x : Int32) (n : Nat) (hn : n ≤ 60) : (x.toInt < 0 ∨ (n : Int) ≤ x.toInt) ∨ ∃ p, p < n ∧ x = nI p := by
  by_cases h : x.toInt < 0 ∨ (n : Int) ≤ x.toInt
  · exact Or.inl h
  · right
    refine ⟨x.toInt.toNat, by omega, Int32.toInt_inj.mp ?_⟩
    rw [nI_toInt (by omega)]
    omega
def okp (S : MS) (x : Int32) : Bool := decide (0 ≤ x.toInt ∧ x.toInt < (S.2.2.2.2.2.2.length : Int))
set_option maxRecDepth 20000 in
theorem s_isPage {B : Nat} {ad M : Nat → Nat} {thr x : Int32} {S : MS} {σ : xW} {K : xK} (h0 : σ.1 (M 0) = some (mo_ M thr S)) (hn : S.2.2.2.2.2.2.length ≤ 60) (h : K (some (.int (bz (okp S x)))) σ) : x_cl (eX8_isPage B ad) [.ref (M 0), .int x] σ K := by
  unfold mo_ mobj at h0
  refine x_ev_of (by simp [x_sl, Value.category]) ?_
  show wX8_isPage B ad K 0 [.ref (M 0), .int x] [] σ
  simp only [eX8_isPage_0, eX8_isPage_1, eX8_isPage_4, eX8_isPage_5, eX8_isPage_6, eX8_isPage_9, eX8_isPage_12, eX8_isPage_13, eX8_isPage_16, eX8_isPage_17, List.getElem?_cons_zero, List.getElem?_cons_succ, Option.some.injEq, Value.int.injEq, Value.long.injEq, Value.ref.injEq, reduceCtorEq, exists_eq_left', exists_eq_left, exists_and_left, exists_and_right, and_assoc, and_true, true_and, true_or, or_true, x_rfv_ref, x_rfv_null, Prod.mk.injEq, List.set_cons_zero, List.set_cons_succ, List.length_cons, List.length_nil, Value.category, x_nl0, x_nl1, x_nl2, x_nl3, x_nl4, x_nl5, x_nl6, x_nl7, x_nl8, x_nl9, x_nl10, x_nl11, x_nl12, List.map_nil, List.map_cons, List.sum_nil, List.sum_cons, Option.toList_some, Option.toList_none, List.nil_append, List.cons_append, xl_lt, xl_gt, xl_eq, ↓reduceIte, Nat.reduceLT, Nat.reduceAdd, Nat.reduceLeDiff, x_up_self, x_uu, lt0, ln0, lx0, lt1, ln1, lx1, lt2, ln2, lx2, lt3, ln3, lx3, lt4, ln4, lx4, lt5, ln5, lx5, lt6, ln6, lx6, lt7, ln7, lx7, lt8, ln8, lx8, lt9, ln9, lx9, lt10, ln10, lx10, lt11, ln11, lx11, lt12, ln12, lx12, lt13, ln13, lx13, lt14, ln14, lx14, lt15, ln15, lx15, lt16, ln16, lx16, lt17, ln17, lx17, lt18, ln18, lx18, lt19, ln19, lx19, lt20, ln20, lx20, lt21, ln21, lx21, lt22, ln22, lx22, lt23, ln23, lx23, lt24, ln24, lx24, la0, la1, la2, la3, la4, la5, la6, la7, la8, la9, la10, la11, la12, lb0, lb1, lb2, lb3, lb4, lb5, lb6, lb7, lb8, lb9, lb10, lb11, lb12, lt60, lt400, lt900, ltm1, ltm2, ltm4, ltm10000, lt10000, lt1000000, ltm1000000, lt10000000, lt2000, lt100000, Int.toNat_natCast, i1ne0, i0eq0, Int.reduceLT, Int.reduceLE, Int.reduceToNat, Int.reduceNeg, not_true, not_false_iff, false_imp_iff, true_imp_iff, imp_self, implies_true, Option.isSome_some, Bool.false_eq_true, h0, nI_k (show S.2.2.2.2.2.2.length < 2147483648 by omega)]
  unfold okp bz at h
  by_cases g1 : x.toInt < 0
  · rw [if_pos g1]
    rw [if_neg (by simp; omega)] at h
    exact h
  · rw [if_neg g1]
    by_cases g2 : x.toInt < (S.2.2.2.2.2.2.length : Int)
    · rw [if_pos g2]
      rw [if_pos (by simp; omega)] at h
      exact h
    · rw [if_neg g2]
      rw [if_neg (by simp; omega)] at h
      exact h
set_option maxRecDepth 20000 in
theorem s_sizeOf {B : Nat} {ad M : Nat → Nat} {thr : Int32} {p : Nat} {S : MS} {σ : xW} {K : xK} (h0 : σ.1 (M 0) = some (mo_ M thr S)) (hP : RMP σ.1 M S.2.2.2.2.2.2) (hp : p < S.2.2.2.2.2.2.length) (h : K (some (.int (nI (pg_at S.2.2.2.2.2.2 p).1.length))) σ) : x_cl (eX8_sizeOf B ad) [.ref (M 0), .int (nI p)] σ K := by
  obtain ⟨⟨V, g1, g2⟩, -⟩ := hP
  have hn := apre_n g2
  unfold mo_ mobj at h0
  refine x_ev_of (by simp [x_sl, Value.category]) ?_
  show wX8_sizeOf B ad K 0 [.ref (M 0), .int (nI p)] [] σ
  simp only [eX8_sizeOf_0, eX8_sizeOf_1, eX8_sizeOf_4, eX8_sizeOf_5, eX8_sizeOf_6, eX8_sizeOf_7, eX8_sizeOf_8, eX8_sizeOf_9, eX8_sizeOf_12, eX8_sizeOf_13, eX8_sizeOf_14, eX8_sizeOf_15, List.getElem?_cons_zero, List.getElem?_cons_succ, Option.some.injEq, Value.int.injEq, Value.long.injEq, Value.ref.injEq, reduceCtorEq, exists_eq_left', exists_eq_left, exists_and_left, exists_and_right, and_assoc, and_true, true_and, true_or, or_true, x_rfv_ref, x_rfv_null, Prod.mk.injEq, List.set_cons_zero, List.set_cons_succ, List.length_cons, List.length_nil, Value.category, x_nl0, x_nl1, x_nl2, x_nl3, x_nl4, x_nl5, x_nl6, x_nl7, x_nl8, x_nl9, x_nl10, x_nl11, x_nl12, List.map_nil, List.map_cons, List.sum_nil, List.sum_cons, Option.toList_some, Option.toList_none, List.nil_append, List.cons_append, xl_lt, xl_gt, xl_eq, ↓reduceIte, Nat.reduceLT, Nat.reduceAdd, Nat.reduceLeDiff, x_up_self, x_uu, lt0, ln0, lx0, lt1, ln1, lx1, lt2, ln2, lx2, lt3, ln3, lx3, lt4, ln4, lx4, lt5, ln5, lx5, lt6, ln6, lx6, lt7, ln7, lx7, lt8, ln8, lx8, lt9, ln9, lx9, lt10, ln10, lx10, lt11, ln11, lx11, lt12, ln12, lx12, lt13, ln13, lx13, lt14, ln14, lx14, lt15, ln15, lx15, lt16, ln16, lx16, lt17, ln17, lx17, lt18, ln18, lx18, lt19, ln19, lx19, lt20, ln20, lx20, lt21, ln21, lx21, lt22, ln22, lx22, lt23, ln23, lx23, lt24, ln24, lx24, la0, la1, la2, la3, la4, la5, la6, la7, la8, la9, la10, la11, la12, lb0, lb1, lb2, lb3, lb4, lb5, lb6, lb7, lb8, lb9, lb10, lb11, lb12, lt60, lt400, lt900, ltm1, ltm2, ltm4, ltm10000, lt10000, lt1000000, ltm1000000, lt10000000, lt2000, lt100000, Int.toNat_natCast, i1ne0, i0eq0, Int.reduceLT, Int.reduceLE, Int.reduceToNat, Int.reduceNeg, not_true, not_false_iff, false_imp_iff, true_imp_iff, imp_self, implies_true, Option.isSome_some, Bool.false_eq_true, h0, g1, nI_1, apre_ix g2 (show p < _ by omega) (by omega), apre_ix g2 (show p + 1 < _ by omega) (by omega), pg_b_succ hp, pk_sub (Nat.le_add_right _ _), Nat.add_sub_cancel_left]
  exact h
def m_at (S : MS) (x i : Int32) : Int32 := if okp S x = true ∧ 0 ≤ i.toInt ∧ i.toInt < ((pg_at S.2.2.2.2.2.2 x.toInt.toNat).1.length : Int) then nI ((pg_at S.2.2.2.2.2.2 x.toInt.toNat).1.getD i.toInt.toNat (0, 0)).1 else -1
def m_part (S : MS) (x i : Int32) : Int32 := if okp S x = true ∧ 0 ≤ i.toInt ∧ i.toInt < ((pg_at S.2.2.2.2.2.2 x.toInt.toNat).1.length : Int) then ((pg_at S.2.2.2.2.2.2 x.toInt.toNat).1.getD i.toInt.toNat (0, 0)).2 else 0
theorem okp_f {S : MS} {x : Int32} (h : x.toInt < 0 ∨ (S.2.2.2.2.2.2.length : Int) ≤ x.toInt) : okp S x = false := by unfold okp; simp; omega
theorem okp_t {S : MS} {p : Nat} (h : p < S.2.2.2.2.2.2.length) (hn : S.2.2.2.2.2.2.length ≤ 60) : okp S (nI p) = true := by unfold okp; rw [nI_k (by omega)]; simp; omega
theorem bzt : bz true = 1 := rfl
theorem bzf : bz false = 0 := rfl
set_option maxRecDepth 20000 in
theorem s_atM {B : Nat} {ad M : Nat → Nat} {thr x i : Int32} {S : MS} {σ : xW} {K : xK} (hM : ainj M) (hB : ∀ c, B ≤ M c) (h0 : RM σ.1 M thr S) (h : K (some (.int (m_at S x i))) (x_up σ.1 (M 0) (mo_ M 0 S), σ.2)) : x_cl (eX8_at B ad) [.ref (M 0), .int x, .int i] σ K := by
  have hR := RM_thr (t := 0) hM h0
  obtain ⟨r0, -, -, -, -, -, rP, -⟩ := hR
  have hn : S.2.2.2.2.2.2.length + 1 ≤ 61 := by obtain ⟨⟨V, -, g2⟩, -⟩ := rP; exact apre_n g2
  obtain ⟨h0, -⟩ := h0
  have e0 : ∀ q : xE, q = mo_ M 0 S → x_up σ.1 (M 0) q = x_up σ.1 (M 0) (mo_ M 0 S) := fun q hq => by rw [hq]
  refine x_ev_of (by simp [x_sl, Value.category]) ?_
  show wX8_at B ad K 0 [.ref (M 0), .int x, .int i] [] σ
  unfold mo_ mobj at h0
  simp only [eX8_at_0, eX8_at_1, eX8_at_2, eX8_at_5, eX8_at_6, eX8_at_7, eX8_at_10, eX8_at_13, eX8_at_14, eX8_at_17, eX8_at_18, eX8_at_19, eX8_at_20, eX8_at_23, eX8_at_26, eX8_at_27, eX8_at_30, eX8_at_31, eX8_at_34, eX8_at_35, eX8_at_36, eX8_at_37, eX8_at_38, eX8_at_39, eX8_at_42, eX8_at_43, List.getElem?_cons_zero, List.getElem?_cons_succ, Option.some.injEq, Value.int.injEq, Value.long.injEq, Value.ref.injEq, reduceCtorEq, exists_eq_left', exists_eq_left, exists_and_left, exists_and_right, and_assoc, and_true, true_and, true_or, or_true, x_rfv_ref, x_rfv_null, Prod.mk.injEq, List.set_cons_zero, List.set_cons_succ, List.length_cons, List.length_nil, Value.category, x_nl0, x_nl1, x_nl2, x_nl3, x_nl4, x_nl5, x_nl6, x_nl7, x_nl8, x_nl9, x_nl10, x_nl11, x_nl12, List.map_nil, List.map_cons, List.sum_nil, List.sum_cons, Option.toList_some, Option.toList_none, List.nil_append, List.cons_append, xl_lt, xl_gt, xl_eq, ↓reduceIte, Nat.reduceLT, Nat.reduceAdd, Nat.reduceLeDiff, x_up_self, x_uu, lt0, ln0, lx0, lt1, ln1, lx1, lt2, ln2, lx2, lt3, ln3, lx3, lt4, ln4, lx4, lt5, ln5, lx5, lt6, ln6, lx6, lt7, ln7, lx7, lt8, ln8, lx8, lt9, ln9, lx9, lt10, ln10, lx10, lt11, ln11, lx11, lt12, ln12, lx12, lt13, ln13, lx13, lt14, ln14, lx14, lt15, ln15, lx15, lt16, ln16, lx16, lt17, ln17, lx17, lt18, ln18, lx18, lt19, ln19, lx19, lt20, ln20, lx20, lt21, ln21, lx21, lt22, ln22, lx22, lt23, ln23, lx23, lt24, ln24, lx24, la0, la1, la2, la3, la4, la5, la6, la7, la8, la9, la10, la11, la12, lb0, lb1, lb2, lb3, lb4, lb5, lb6, lb7, lb8, lb9, lb10, lb11, lb12, lt60, lt400, lt900, ltm1, ltm2, ltm4, ltm10000, lt10000, lt1000000, ltm1000000, lt10000000, lt2000, lt100000, Int.toNat_natCast, i1ne0, i0eq0, Int.reduceLT, Int.reduceLE, Int.reduceToNat, Int.reduceNeg, not_true, not_false_iff, false_imp_iff, true_imp_iff, imp_self, implies_true, Option.isSome_some, Bool.false_eq_true, h0, hB, x_clvu]
  rw [e0 _ (by unfold mo_ mobj; rfl)]
  clear e0
  generalize x_up σ.1 (M 0) (mo_ M 0 S) = w1 at r0 rP h ⊢
  refine s_isPage (S := S) (thr := 0) r0 (by omega) ?_
  have r0' := r0
  unfold mo_ mobj at r0'
  simp only [eX8_at_0, eX8_at_1, eX8_at_2, eX8_at_5, eX8_at_6, eX8_at_7, eX8_at_10, eX8_at_13, eX8_at_14, eX8_at_17, eX8_at_18, eX8_at_19, eX8_at_20, eX8_at_23, eX8_at_26, eX8_at_27, eX8_at_30, eX8_at_31, eX8_at_34, eX8_at_35, eX8_at_36, eX8_at_37, eX8_at_38, eX8_at_39, eX8_at_42, eX8_at_43, List.getElem?_cons_zero, List.getElem?_cons_succ, Option.some.injEq, Value.int.injEq, Value.long.injEq, Value.ref.injEq, reduceCtorEq, exists_eq_left', exists_eq_left, exists_and_left, exists_and_right, and_assoc, and_true, true_and, true_or, or_true, x_rfv_ref, x_rfv_null, Prod.mk.injEq, List.set_cons_zero, List.set_cons_succ, List.length_cons, List.length_nil, Value.category, x_nl0, x_nl1, x_nl2, x_nl3, x_nl4, x_nl5, x_nl6, x_nl7, x_nl8, x_nl9, x_nl10, x_nl11, x_nl12, List.map_nil, List.map_cons, List.sum_nil, List.sum_cons, Option.toList_some, Option.toList_none, List.nil_append, List.cons_append, xl_lt, xl_gt, xl_eq, ↓reduceIte, Nat.reduceLT, Nat.reduceAdd, Nat.reduceLeDiff, x_up_self, x_uu, lt0, ln0, lx0, lt1, ln1, lx1, lt2, ln2, lx2, lt3, ln3, lx3, lt4, ln4, lx4, lt5, ln5, lx5, lt6, ln6, lx6, lt7, ln7, lx7, lt8, ln8, lx8, lt9, ln9, lx9, lt10, ln10, lx10, lt11, ln11, lx11, lt12, ln12, lx12, lt13, ln13, lx13, lt14, ln14, lx14, lt15, ln15, lx15, lt16, ln16, lx16, lt17, ln17, lx17, lt18, ln18, lx18, lt19, ln19, lx19, lt20, ln20, lx20, lt21, ln21, lx21, lt22, ln22, lx22, lt23, ln23, lx23, lt24, ln24, lx24, la0, la1, la2, la3, la4, la5, la6, la7, la8, la9, la10, la11, la12, lb0, lb1, lb2, lb3, lb4, lb5, lb6, lb7, lb8, lb9, lb10, lb11, lb12, lt60, lt400, lt900, ltm1, ltm2, ltm4, ltm10000, lt10000, lt1000000, ltm1000000, lt10000000, lt2000, lt100000, Int.toNat_natCast, i1ne0, i0eq0, Int.reduceLT, Int.reduceLE, Int.reduceToNat, Int.reduceNeg, not_true, not_false_iff, false_imp_iff, true_imp_iff, imp_self, implies_true, Option.isSome_some, Bool.false_eq_true, r0']
  unfold m_at at h
  rcases pg_case x S.2.2.2.2.2.2.length (by omega) with hx | ⟨p, hp, rfl⟩
  · rw [okp_f hx] at h ⊢
    rw [bzf, if_pos rfl]
    rw [if_neg (by simp)] at h
    exact h
  · rw [okp_t hp (by omega), nI_nat (by omega)] at h
    rw [okp_t hp (by omega), bzt, if_neg (by decide)]
    by_cases g1 : i.toInt < 0
    · rw [if_pos g1]
      rw [if_neg (by omega)] at h
      exact h
    · rw [if_neg g1, x_clv r0']
      refine s_sizeOf (S := S) r0 rP hp ?_
      have hb := pg_b_le hp
      obtain ⟨⟨V, g2, g3⟩, ⟨V2, g4, g5⟩, -⟩ := id rP
      have hN := apre_n g5
      simp only [eX8_at_0, eX8_at_1, eX8_at_2, eX8_at_5, eX8_at_6, eX8_at_7, eX8_at_10, eX8_at_13, eX8_at_14, eX8_at_17, eX8_at_18, eX8_at_19, eX8_at_20, eX8_at_23, eX8_at_26, eX8_at_27, eX8_at_30, eX8_at_31, eX8_at_34, eX8_at_35, eX8_at_36, eX8_at_37, eX8_at_38, eX8_at_39, eX8_at_42, eX8_at_43, List.getElem?_cons_zero, List.getElem?_cons_succ, Option.some.injEq, Value.int.injEq, Value.long.injEq, Value.ref.injEq, reduceCtorEq, exists_eq_left', exists_eq_left, exists_and_left, exists_and_right, and_assoc, and_true, true_and, true_or, or_true, x_rfv_ref, x_rfv_null, Prod.mk.injEq, List.set_cons_zero, List.set_cons_succ, List.length_cons, List.length_nil, Value.category, x_nl0, x_nl1, x_nl2, x_nl3, x_nl4, x_nl5, x_nl6, x_nl7, x_nl8, x_nl9, x_nl10, x_nl11, x_nl12, List.map_nil, List.map_cons, List.sum_nil, List.sum_cons, Option.toList_some, Option.toList_none, List.nil_append, List.cons_append, xl_lt, xl_gt, xl_eq, ↓reduceIte, Nat.reduceLT, Nat.reduceAdd, Nat.reduceLeDiff, x_up_self, x_uu, lt0, ln0, lx0, lt1, ln1, lx1, lt2, ln2, lx2, lt3, ln3, lx3, lt4, ln4, lx4, lt5, ln5, lx5, lt6, ln6, lx6, lt7, ln7, lx7, lt8, ln8, lx8, lt9, ln9, lx9, lt10, ln10, lx10, lt11, ln11, lx11, lt12, ln12, lx12, lt13, ln13, lx13, lt14, ln14, lx14, lt15, ln15, lx15, lt16, ln16, lx16, lt17, ln17, lx17, lt18, ln18, lx18, lt19, ln19, lx19, lt20, ln20, lx20, lt21, ln21, lx21, lt22, ln22, lx22, lt23, ln23, lx23, lt24, ln24, lx24, la0, la1, la2, la3, la4, la5, la6, la7, la8, la9, la10, la11, la12, lb0, lb1, lb2, lb3, lb4, lb5, lb6, lb7, lb8, lb9, lb10, lb11, lb12, lt60, lt400, lt900, ltm1, ltm2, ltm4, ltm10000, lt10000, lt1000000, ltm1000000, lt10000000, lt2000, lt100000, Int.toNat_natCast, i1ne0, i0eq0, Int.reduceLT, Int.reduceLE, Int.reduceToNat, Int.reduceNeg, not_true, not_false_iff, false_imp_iff, true_imp_iff, imp_self, implies_true, Option.isSome_some, Bool.false_eq_true, r0', g2, g4, apre_ix g3 (show p < _ by omega) (by omega), nI_k (show (pg_at S.2.2.2.2.2.2 p).1.length < 2147483648 by omega)]
      by_cases g6 : i.toInt < ((pg_at S.2.2.2.2.2.2 p).1.length : Int)
      · rw [if_pos g6]
        rw [if_pos ⟨rfl, by omega, g6⟩] at h
        have ei : i = nI i.toInt.toNat := Int32.toInt_inj.mp (by rw [nI_toInt (by omega)]; omega)
        have hj : i.toInt.toNat < 2147483648 := by omega
        generalize i.toInt.toNat = j at ei h hj
        subst ei
        rw [nI_k (by omega)] at g6
        rw [nI_add, apre_ix g5 (show pg_b S.2.2.2.2.2.2 p + j < _ by omega) (by omega)]
        simp only [eX8_at_0, eX8_at_1, eX8_at_2, eX8_at_5, eX8_at_6, eX8_at_7, eX8_at_10, eX8_at_13, eX8_at_14, eX8_at_17, eX8_at_18, eX8_at_19, eX8_at_20, eX8_at_23, eX8_at_26, eX8_at_27, eX8_at_30, eX8_at_31, eX8_at_34, eX8_at_35, eX8_at_36, eX8_at_37, eX8_at_38, eX8_at_39, eX8_at_42, eX8_at_43, List.getElem?_cons_zero, List.getElem?_cons_succ, Option.some.injEq, Value.int.injEq, Value.long.injEq, Value.ref.injEq, reduceCtorEq, exists_eq_left', exists_eq_left, exists_and_left, exists_and_right, and_assoc, and_true, true_and, true_or, or_true, x_rfv_ref, x_rfv_null, Prod.mk.injEq, List.set_cons_zero, List.set_cons_succ, List.length_cons, List.length_nil, Value.category, x_nl0, x_nl1, x_nl2, x_nl3, x_nl4, x_nl5, x_nl6, x_nl7, x_nl8, x_nl9, x_nl10, x_nl11, x_nl12, List.map_nil, List.map_cons, List.sum_nil, List.sum_cons, Option.toList_some, Option.toList_none, List.nil_append, List.cons_append, xl_lt, xl_gt, xl_eq, ↓reduceIte, Nat.reduceLT, Nat.reduceAdd, Nat.reduceLeDiff, x_up_self, x_uu, pg_it_get hp (show j < _ by omega)]
        exact h
      · rw [if_neg g6]
        rw [if_neg (by omega)] at h
        exact h
set_option maxRecDepth 20000 in
theorem s_partM {B : Nat} {ad M : Nat → Nat} {thr x i : Int32} {S : MS} {σ : xW} {K : xK} (hM : ainj M) (hB : ∀ c, B ≤ M c) (h0 : RM σ.1 M thr S) (h : K (some (.int (m_part S x i))) (x_up σ.1 (M 0) (mo_ M 0 S), σ.2)) : x_cl (eX8_part B ad) [.ref (M 0), .int x, .int i] σ K := by
  have hR := RM_thr (t := 0) hM h0
  obtain ⟨r0, -, -, -, -, -, rP, -⟩ := hR
  have hn : S.2.2.2.2.2.2.length + 1 ≤ 61 := by obtain ⟨⟨V, -, g2⟩, -⟩ := rP; exact apre_n g2
  obtain ⟨h0, -⟩ := h0
  have e0 : ∀ q : xE, q = mo_ M 0 S → x_up σ.1 (M 0) q = x_up σ.1 (M 0) (mo_ M 0 S) := fun q hq => by rw [hq]
  refine x_ev_of (by simp [x_sl, Value.category]) ?_
  show wX8_part B ad K 0 [.ref (M 0), .int x, .int i] [] σ
  unfold mo_ mobj at h0
  simp only [eX8_part_0, eX8_part_1, eX8_part_2, eX8_part_5, eX8_part_6, eX8_part_7, eX8_part_10, eX8_part_13, eX8_part_14, eX8_part_17, eX8_part_18, eX8_part_19, eX8_part_20, eX8_part_23, eX8_part_26, eX8_part_27, eX8_part_30, eX8_part_31, eX8_part_34, eX8_part_35, eX8_part_36, eX8_part_37, eX8_part_38, eX8_part_39, eX8_part_42, eX8_part_43, List.getElem?_cons_zero, List.getElem?_cons_succ, Option.some.injEq, Value.int.injEq, Value.long.injEq, Value.ref.injEq, reduceCtorEq, exists_eq_left', exists_eq_left, exists_and_left, exists_and_right, and_assoc, and_true, true_and, true_or, or_true, x_rfv_ref, x_rfv_null, Prod.mk.injEq, List.set_cons_zero, List.set_cons_succ, List.length_cons, List.length_nil, Value.category, x_nl0, x_nl1, x_nl2, x_nl3, x_nl4, x_nl5, x_nl6, x_nl7, x_nl8, x_nl9, x_nl10, x_nl11, x_nl12, List.map_nil, List.map_cons, List.sum_nil, List.sum_cons, Option.toList_some, Option.toList_none, List.nil_append, List.cons_append, xl_lt, xl_gt, xl_eq, ↓reduceIte, Nat.reduceLT, Nat.reduceAdd, Nat.reduceLeDiff, x_up_self, x_uu, lt0, ln0, lx0, lt1, ln1, lx1, lt2, ln2, lx2, lt3, ln3, lx3, lt4, ln4, lx4, lt5, ln5, lx5, lt6, ln6, lx6, lt7, ln7, lx7, lt8, ln8, lx8, lt9, ln9, lx9, lt10, ln10, lx10, lt11, ln11, lx11, lt12, ln12, lx12, lt13, ln13, lx13, lt14, ln14, lx14, lt15, ln15, lx15, lt16, ln16, lx16, lt17, ln17, lx17, lt18, ln18, lx18, lt19, ln19, lx19, lt20, ln20, lx20, lt21, ln21, lx21, lt22, ln22, lx22, lt23, ln23, lx23, lt24, ln24, lx24, la0, la1, la2, la3, la4, la5, la6, la7, la8, la9, la10, la11, la12, lb0, lb1, lb2, lb3, lb4, lb5, lb6, lb7, lb8, lb9, lb10, lb11, lb12, lt60, lt400, lt900, ltm1, ltm2, ltm4, ltm10000, lt10000, lt1000000, ltm1000000, lt10000000, lt2000, lt100000, Int.toNat_natCast, i1ne0, i0eq0, Int.reduceLT, Int.reduceLE, Int.reduceToNat, Int.reduceNeg, not_true, not_false_iff, false_imp_iff, true_imp_iff, imp_self, implies_true, Option.isSome_some, Bool.false_eq_true, h0, hB, x_clvu]
  rw [e0 _ (by unfold mo_ mobj; rfl)]
  clear e0
  generalize x_up σ.1 (M 0) (mo_ M 0 S) = w1 at r0 rP h ⊢
  refine s_isPage (S := S) (thr := 0) r0 (by omega) ?_
  have r0' := r0
  unfold mo_ mobj at r0'
  simp only [eX8_part_0, eX8_part_1, eX8_part_2, eX8_part_5, eX8_part_6, eX8_part_7, eX8_part_10, eX8_part_13, eX8_part_14, eX8_part_17, eX8_part_18, eX8_part_19, eX8_part_20, eX8_part_23, eX8_part_26, eX8_part_27, eX8_part_30, eX8_part_31, eX8_part_34, eX8_part_35, eX8_part_36, eX8_part_37, eX8_part_38, eX8_part_39, eX8_part_42, eX8_part_43, List.getElem?_cons_zero, List.getElem?_cons_succ, Option.some.injEq, Value.int.injEq, Value.long.injEq, Value.ref.injEq, reduceCtorEq, exists_eq_left', exists_eq_left, exists_and_left, exists_and_right, and_assoc, and_true, true_and, true_or, or_true, x_rfv_ref, x_rfv_null, Prod.mk.injEq, List.set_cons_zero, List.set_cons_succ, List.length_cons, List.length_nil, Value.category, x_nl0, x_nl1, x_nl2, x_nl3, x_nl4, x_nl5, x_nl6, x_nl7, x_nl8, x_nl9, x_nl10, x_nl11, x_nl12, List.map_nil, List.map_cons, List.sum_nil, List.sum_cons, Option.toList_some, Option.toList_none, List.nil_append, List.cons_append, xl_lt, xl_gt, xl_eq, ↓reduceIte, Nat.reduceLT, Nat.reduceAdd, Nat.reduceLeDiff, x_up_self, x_uu, lt0, ln0, lx0, lt1, ln1, lx1, lt2, ln2, lx2, lt3, ln3, lx3, lt4, ln4, lx4, lt5, ln5, lx5, lt6, ln6, lx6, lt7, ln7, lx7, lt8, ln8, lx8, lt9, ln9, lx9, lt10, ln10, lx10, lt11, ln11, lx11, lt12, ln12, lx12, lt13, ln13, lx13, lt14, ln14, lx14, lt15, ln15, lx15, lt16, ln16, lx16, lt17, ln17, lx17, lt18, ln18, lx18, lt19, ln19, lx19, lt20, ln20, lx20, lt21, ln21, lx21, lt22, ln22, lx22, lt23, ln23, lx23, lt24, ln24, lx24, la0, la1, la2, la3, la4, la5, la6, la7, la8, la9, la10, la11, la12, lb0, lb1, lb2, lb3, lb4, lb5, lb6, lb7, lb8, lb9, lb10, lb11, lb12, lt60, lt400, lt900, ltm1, ltm2, ltm4, ltm10000, lt10000, lt1000000, ltm1000000, lt10000000, lt2000, lt100000, Int.toNat_natCast, i1ne0, i0eq0, Int.reduceLT, Int.reduceLE, Int.reduceToNat, Int.reduceNeg, not_true, not_false_iff, false_imp_iff, true_imp_iff, imp_self, implies_true, Option.isSome_some, Bool.false_eq_true, r0']
  unfold m_part at h
  rcases pg_case x S.2.2.2.2.2.2.length (by omega) with hx | ⟨p, hp, rfl⟩
  · rw [okp_f hx] at h ⊢
    rw [bzf, if_pos rfl]
    rw [if_neg (by simp)] at h
    exact h
  · rw [okp_t hp (by omega), nI_nat (by omega)] at h
    rw [okp_t hp (by omega), bzt, if_neg (by decide)]
    by_cases g1 : i.toInt < 0
    · rw [if_pos g1]
      rw [if_neg (by omega)] at h
      exact h
    · rw [if_neg g1, x_clv r0']
      refine s_sizeOf (S := S) r0 rP hp ?_
      have hb := pg_b_le hp
      obtain ⟨⟨V, g2, g3⟩, -, ⟨V2, g4, g5⟩, -⟩ := id rP
      have hN := apre_n g5
      simp only [eX8_part_0, eX8_part_1, eX8_part_2, eX8_part_5, eX8_part_6, eX8_part_7, eX8_part_10, eX8_part_13, eX8_part_14, eX8_part_17, eX8_part_18, eX8_part_19, eX8_part_20, eX8_part_23, eX8_part_26, eX8_part_27, eX8_part_30, eX8_part_31, eX8_part_34, eX8_part_35, eX8_part_36, eX8_part_37, eX8_part_38, eX8_part_39, eX8_part_42, eX8_part_43, List.getElem?_cons_zero, List.getElem?_cons_succ, Option.some.injEq, Value.int.injEq, Value.long.injEq, Value.ref.injEq, reduceCtorEq, exists_eq_left', exists_eq_left, exists_and_left, exists_and_right, and_assoc, and_true, true_and, true_or, or_true, x_rfv_ref, x_rfv_null, Prod.mk.injEq, List.set_cons_zero, List.set_cons_succ, List.length_cons, List.length_nil, Value.category, x_nl0, x_nl1, x_nl2, x_nl3, x_nl4, x_nl5, x_nl6, x_nl7, x_nl8, x_nl9, x_nl10, x_nl11, x_nl12, List.map_nil, List.map_cons, List.sum_nil, List.sum_cons, Option.toList_some, Option.toList_none, List.nil_append, List.cons_append, xl_lt, xl_gt, xl_eq, ↓reduceIte, Nat.reduceLT, Nat.reduceAdd, Nat.reduceLeDiff, x_up_self, x_uu, lt0, ln0, lx0, lt1, ln1, lx1, lt2, ln2, lx2, lt3, ln3, lx3, lt4, ln4, lx4, lt5, ln5, lx5, lt6, ln6, lx6, lt7, ln7, lx7, lt8, ln8, lx8, lt9, ln9, lx9, lt10, ln10, lx10, lt11, ln11, lx11, lt12, ln12, lx12, lt13, ln13, lx13, lt14, ln14, lx14, lt15, ln15, lx15, lt16, ln16, lx16, lt17, ln17, lx17, lt18, ln18, lx18, lt19, ln19, lx19, lt20, ln20, lx20, lt21, ln21, lx21, lt22, ln22, lx22, lt23, ln23, lx23, lt24, ln24, lx24, la0, la1, la2, la3, la4, la5, la6, la7, la8, la9, la10, la11, la12, lb0, lb1, lb2, lb3, lb4, lb5, lb6, lb7, lb8, lb9, lb10, lb11, lb12, lt60, lt400, lt900, ltm1, ltm2, ltm4, ltm10000, lt10000, lt1000000, ltm1000000, lt10000000, lt2000, lt100000, Int.toNat_natCast, i1ne0, i0eq0, Int.reduceLT, Int.reduceLE, Int.reduceToNat, Int.reduceNeg, not_true, not_false_iff, false_imp_iff, true_imp_iff, imp_self, implies_true, Option.isSome_some, Bool.false_eq_true, r0', g2, g4, apre_ix g3 (show p < _ by omega) (by omega), nI_k (show (pg_at S.2.2.2.2.2.2 p).1.length < 2147483648 by omega)]
      by_cases g6 : i.toInt < ((pg_at S.2.2.2.2.2.2 p).1.length : Int)
      · rw [if_pos g6]
        rw [if_pos ⟨rfl, by omega, g6⟩] at h
        have ei : i = nI i.toInt.toNat := Int32.toInt_inj.mp (by rw [nI_toInt (by omega)]; omega)
        have hj : i.toInt.toNat < 2147483648 := by omega
        generalize i.toInt.toNat = j at ei h hj
        subst ei
        rw [nI_k (by omega)] at g6
        rw [nI_add, apre_ix g5 (show pg_b S.2.2.2.2.2.2 p + j < _ by omega) (by omega)]
        simp only [eX8_part_0, eX8_part_1, eX8_part_2, eX8_part_5, eX8_part_6, eX8_part_7, eX8_part_10, eX8_part_13, eX8_part_14, eX8_part_17, eX8_part_18, eX8_part_19, eX8_part_20, eX8_part_23, eX8_part_26, eX8_part_27, eX8_part_30, eX8_part_31, eX8_part_34, eX8_part_35, eX8_part_36, eX8_part_37, eX8_part_38, eX8_part_39, eX8_part_42, eX8_part_43, List.getElem?_cons_zero, List.getElem?_cons_succ, Option.some.injEq, Value.int.injEq, Value.long.injEq, Value.ref.injEq, reduceCtorEq, exists_eq_left', exists_eq_left, exists_and_left, exists_and_right, and_assoc, and_true, true_and, true_or, or_true, x_rfv_ref, x_rfv_null, Prod.mk.injEq, List.set_cons_zero, List.set_cons_succ, List.length_cons, List.length_nil, Value.category, x_nl0, x_nl1, x_nl2, x_nl3, x_nl4, x_nl5, x_nl6, x_nl7, x_nl8, x_nl9, x_nl10, x_nl11, x_nl12, List.map_nil, List.map_cons, List.sum_nil, List.sum_cons, Option.toList_some, Option.toList_none, List.nil_append, List.cons_append, xl_lt, xl_gt, xl_eq, ↓reduceIte, Nat.reduceLT, Nat.reduceAdd, Nat.reduceLeDiff, x_up_self, x_uu, pg_it_get hp (show j < _ by omega)]
        exact h
      · rw [if_neg g6]
        rw [if_neg (by omega)] at h
        exact h
