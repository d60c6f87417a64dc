/-! Line: a ring of at most 400 -/
def rg (V : List Value) (hn : Nat) (l : List Nat) : Prop := V.length = 400 ∧ hn < 400 ∧ l.length ≤ 400 ∧ ∀ k a, l[k]? = some a → V[(hn + k) % 400]? = some (.ref a)
def lnc (w : xM) (a b : Nat) (V : List Value) (hn : Nat) (l : List Nat) : Prop := w a = some (4, [.ref b, .int (nI hn), .int (nI l.length)]) ∧ w b = some (103, V) ∧ rg V hn l
def rfo (o : Option Nat) : Value := match o with
  | some a => .ref a
  | none => .null
theorem rfo_rf (o : Option Nat) : x_rfv (rfo o) := by cases o <;> simp [rfo, x_rfv]
theorem rm400 {a : Nat} (h : a < 2 ^ 31) : nI a - nI a / 400 * 400 = nI (a % 400) := pk_rem h (by decide) (by decide)
theorem s_look {B : Nat} {ad : Nat → Nat} {a b hn k : Nat} {V : List Value} {l : List Nat} {σ : xW} {K : xK} (hl : lnc σ.1 a b V hn l) (hk : k ≤ 400) (h : K (some (rfo l[k]?)) σ) : x_cl (eX4_look B ad) [.ref a, .int (nI k)] σ K := by
  obtain ⟨h1, h2, g1, g2, g3, g4⟩ := hl
  refine x_ev_of (by simp [x_sl, Value.category]) ?_
  show wX4_look B ad K 0 [.ref a, .int (nI k)] [] σ
  have t1 : (nI k).toInt = k := nI_toInt (by omega)
  have t2 : (nI l.length).toInt = l.length := nI_toInt (by omega)
  simp only [eX4_look_0, eX4_look_1, eX4_look_4, eX4_look_5, eX4_look_6, eX4_look_9, eX4_look_12, eX4_look_13, eX4_look_16, eX4_look_17, eX4_look_20, eX4_look_21, eX4_look_22, eX4_look_25, eX4_look_26, eX4_look_27, eX4_look_30, eX4_look_31, List.getElem?_cons_zero, List.getElem?_cons_succ, Option.some.injEq, Value.int.injEq, Value.long.injEq, Value.ref.injEq, reduceCtorEq, exists_eq_left', exists_eq_left, exists_and_left, exists_and_right, and_assoc, and_true, true_and, true_or, or_true, x_rfv_ref, x_rfv_null, Prod.mk.injEq, List.set_cons_zero, List.set_cons_succ, List.length_cons, List.length_nil, Value.category, x_nl0, x_nl1, x_nl2, x_nl3, x_nl4, x_nl5, x_nl6, x_nl7, x_nl8, x_nl9, x_nl10, x_nl11, x_nl12, List.map_nil, List.map_cons, List.sum_nil, List.sum_cons, Option.toList_some, Option.toList_none, List.nil_append, List.cons_append, xl_lt, xl_gt, xl_eq, ↓reduceIte, Nat.reduceLT, Nat.reduceAdd, Nat.reduceLeDiff, x_up_self, x_uu, h1, h2, t1, t2, nI_add, rm400 (show hn + k < 2 ^ 31 by omega), x_ix_nI (show (hn + k) % 400 < 2 ^ 31 by omega), true_or]
  rw [if_neg (by omega)]
  by_cases hc : k < l.length
  · rw [if_pos (by omega)]
    have hv := List.getElem?_eq_getElem hc
    rw [hv] at h
    refine ⟨by decide, _, g4 k _ hv, ?_⟩
    simp only [eX4_look_0, eX4_look_1, eX4_look_4, eX4_look_5, eX4_look_6, eX4_look_9, eX4_look_12, eX4_look_13, eX4_look_16, eX4_look_17, eX4_look_20, eX4_look_21, eX4_look_22, eX4_look_25, eX4_look_26, eX4_look_27, eX4_look_30, eX4_look_31, List.getElem?_cons_zero, List.getElem?_cons_succ, Option.some.injEq, Value.int.injEq, Value.long.injEq, Value.ref.injEq, reduceCtorEq, exists_eq_left', exists_eq_left, exists_and_left, exists_and_right, and_assoc, and_true, true_and, true_or, or_true, x_rfv_ref, x_rfv_null, Prod.mk.injEq, List.set_cons_zero, List.set_cons_succ, List.length_cons, List.length_nil, Value.category, x_nl0, x_nl1, x_nl2, x_nl3, x_nl4, x_nl5, x_nl6, x_nl7, x_nl8, x_nl9, x_nl10, x_nl11, x_nl12, List.map_nil, List.map_cons, List.sum_nil, List.sum_cons, Option.toList_some, Option.toList_none, List.nil_append, List.cons_append, xl_lt, xl_gt, xl_eq, ↓reduceIte, Nat.reduceLT, Nat.reduceAdd, Nat.reduceLeDiff, x_up_self, x_uu]
    exact h
  · rw [if_neg (by omega)]
    rw [List.getElem?_eq_none (by omega)] at h
    exact h
theorem rg_push {V : List Value} {hn : Nat} {l : List Nat} {x : Nat} (h : rg V hn l) (hl : l.length < 400) : rg (V.set ((hn + l.length) % 400) (.ref x)) hn (l ++ [x]) := by
  obtain ⟨g1, g2, g3, g4⟩ := h
  refine ⟨by rw [List.length_set]; exact g1, g2, by simp; omega, fun k a hk => ?_⟩
  by_cases hc : k < l.length
  · rw [List.getElem?_append_left hc] at hk
    rw [List.getElem?_set_ne (by omega)]
    exact g4 k a hk
  · have hk1 : k = l.length := by
      have := (List.getElem?_eq_some_iff.mp hk).1
      simp at this
      omega
    subst hk1
    simp at hk
    subst hk
    rw [List.getElem?_set_self (by omega)]
theorem rg_cons {V : List Value} {hn : Nat} {l : List Nat} {x : Nat} (h : rg V hn l) (hl : l.length < 400) : rg (V.set ((hn + 399) % 400) (.ref x)) ((hn + 399) % 400) (x :: l) := by
  obtain ⟨g1, g2, g3, g4⟩ := h
  refine ⟨by rw [List.length_set]; exact g1, by omega, by simp; omega, fun k a hk => ?_⟩
  cases k with
  | zero =>
    simp at hk
    subst hk
    have e : ((hn + 399) % 400 + 0) % 400 = (hn + 399) % 400 := by omega
    rw [e, List.getElem?_set_self (by omega)]
  | succ k =>
    rw [List.getElem?_cons_succ] at hk
    have hlt := (List.getElem?_eq_some_iff.mp hk).1
    have e : ((hn + 399) % 400 + (k + 1)) % 400 = (hn + k) % 400 := by omega
    rw [e, List.getElem?_set_ne (by omega)]
    exact g4 k a hk
theorem rg_tail {V : List Value} {hn : Nat} {l : List Nat} {x : Nat} (h : rg V hn (x :: l)) : rg V ((hn + 1) % 400) l := by
  obtain ⟨g1, g2, g3, g4⟩ := h
  refine ⟨g1, by omega, by simp at g3; omega, fun k a hk => ?_⟩
  have e : ((hn + 1) % 400 + k) % 400 = (hn + (k + 1)) % 400 := by omega
  rw [e]
  exact g4 (k + 1) a (by rw [List.getElem?_cons_succ]; exact hk)
theorem s_addLast {B : Nat} {ad : Nat → Nat} {a b hn x : Nat} {V : List Value} {l : List Nat} {fs : List Value} {σ : xW} {K : xK} (hl : lnc σ.1 a b V hn l) (hx : σ.1 x = some (3, fs)) (hlt : l.length < 400) (hB : B ≤ a ∧ B ≤ b) (h : ∀ w' : xM, (∃ V', lnc w' a b V' hn (l ++ [x])) → (∀ q, q ≠ a → q ≠ b → w' q = σ.1 q) → K none (w', σ.2)) : x_cl (eX4_addLast B ad) [.ref a, .ref x] σ K := by
  obtain ⟨h1, h2, hr⟩ := hl
  have nab := x_tag h1 h2 (by decide)
  refine x_ev_of (by simp [x_sl, Value.category]) ?_
  show wX4_addLast B ad K 0 [.ref a, .ref x] [] σ
  have t2 : (nI l.length).toInt = l.length := nI_toInt (by omega)
  have hg2 := hr.2.1
  have hs : (x_ix (nI ((hn + l.length) % 400)) V).isSome := by
    rw [x_ix_nI (by omega), List.getElem?_eq_getElem (by have := hr.1; omega)]
    rfl
  simp only [eX4_addLast_0, eX4_addLast_1, eX4_addLast_4, eX4_addLast_7, eX4_addLast_10, eX4_addLast_11, eX4_addLast_14, eX4_addLast_15, eX4_addLast_18, eX4_addLast_19, eX4_addLast_22, eX4_addLast_23, eX4_addLast_26, eX4_addLast_27, eX4_addLast_28, eX4_addLast_29, eX4_addLast_30, eX4_addLast_31, eX4_addLast_34, eX4_addLast_35, eX4_addLast_36, eX4_addLast_39, List.getElem?_cons_zero, List.getElem?_cons_succ, Option.some.injEq, Value.int.injEq, Value.long.injEq, Value.ref.injEq, reduceCtorEq, exists_eq_left', exists_eq_left, exists_and_left, exists_and_right, and_assoc, and_true, true_and, true_or, or_true, x_rfv_ref, x_rfv_null, Prod.mk.injEq, List.set_cons_zero, List.set_cons_succ, List.length_cons, List.length_nil, Value.category, x_nl0, x_nl1, x_nl2, x_nl3, x_nl4, x_nl5, x_nl6, x_nl7, x_nl8, x_nl9, x_nl10, x_nl11, x_nl12, List.map_nil, List.map_cons, List.sum_nil, List.sum_cons, Option.toList_some, Option.toList_none, List.nil_append, List.cons_append, xl_lt, xl_gt, xl_eq, ↓reduceIte, Nat.reduceLT, Nat.reduceAdd, Nat.reduceLeDiff, x_up_self, x_uu, lt0, ln0, lx0, lt1, ln1, lx1, lt2, ln2, lx2, lt3, ln3, lx3, lt4, ln4, lx4, lt5, ln5, lx5, lt6, ln6, lx6, lt7, ln7, lx7, lt8, ln8, lx8, lt9, ln9, lx9, lt10, ln10, lx10, lt11, ln11, lx11, lt12, ln12, lx12, lt13, ln13, lx13, lt14, ln14, lx14, lt15, ln15, lx15, lt16, ln16, lx16, lt17, ln17, lx17, lt18, ln18, lx18, lt19, ln19, lx19, lt20, ln20, lx20, lt21, ln21, lx21, lt22, ln22, lx22, lt23, ln23, lx23, lt24, ln24, lx24, la0, la1, la2, la3, la4, la5, la6, la7, la8, la9, la10, la11, la12, lb0, lb1, lb2, lb3, lb4, lb5, lb6, lb7, lb8, lb9, lb10, lb11, lb12, lt60, lt400, lt900, ltm1, ltm2, ltm4, ltm10000, lt10000, lt1000000, ltm1000000, lt10000000, lt2000, lt100000, Int.toNat_natCast, i1ne0, i0eq0, Int.reduceLT, Int.reduceLE, Int.reduceToNat, Int.reduceNeg, not_true, not_false_iff, false_imp_iff, true_imp_iff, imp_self, implies_true, Option.isSome_some, Bool.false_eq_true, h1, h2, hx, t2, nI_add, nI_1, rm400 (show hn + l.length < 2 ^ 31 by omega), hB.1, hB.2, hs, x_up_ne _ _ nab, nI_nat (show (hn + l.length) % 400 < 2 ^ 31 by omega)]
  rw [if_pos (by omega)]
  refine ⟨by decide, h _ ⟨V.set ((hn + l.length) % 400) (.ref x), ?_, ?_, rg_push hr hlt⟩ fun q q1 q2 => ?_⟩
  · simp [x_up]
  · simp [x_up, nab.symm]
  · simp [x_up, q1, q2]
theorem s_addFirst {B : Nat} {ad : Nat → Nat} {a b hn x : Nat} {V : List Value} {l : List Nat} {fs : List Value} {σ : xW} {K : xK} (hl : lnc σ.1 a b V hn l) (hx : σ.1 x = some (3, fs)) (hlt : l.length < 400) (hB : B ≤ a ∧ B ≤ b) (h : ∀ w' : xM, (∃ V', lnc w' a b V' ((hn + 399) % 400) (x :: l)) → (∀ q, q ≠ a → q ≠ b → w' q = σ.1 q) → K none (w', σ.2)) : x_cl (eX4_addFirst B ad) [.ref a, .ref x] σ K := by
  obtain ⟨h1, h2, hr⟩ := hl
  have nab := x_tag h1 h2 (by decide)
  have nxa : x ≠ a := x_tag hx h1 (by decide)
  refine x_ev_of (by simp [x_sl, Value.category]) ?_
  show wX4_addFirst B ad K 0 [.ref a, .ref x] [] σ
  have t2 : (nI l.length).toInt = l.length := nI_toInt (by omega)
  have hg2 := hr.2.1
  have hs : (x_ix (nI ((hn + 399) % 400)) V).isSome := by
    rw [x_ix_nI (by omega), List.getElem?_eq_getElem (by have := hr.1; omega)]
    rfl
  have e0 : nI hn + 400 - 1 - (nI hn + 400 - 1) / 400 * 400 = nI ((hn + 399) % 400) := by
    have : nI hn + 400 - 1 = nI (hn + 399) := by
      rw [nI_400, nI_add]
      exact nI_pred (hn + 399)
    rw [this]
    exact rm400 (by omega)
  simp only [eX4_addFirst_0, eX4_addFirst_1, eX4_addFirst_4, eX4_addFirst_7, eX4_addFirst_10, eX4_addFirst_11, eX4_addFirst_12, eX4_addFirst_15, eX4_addFirst_18, eX4_addFirst_19, eX4_addFirst_20, eX4_addFirst_21, eX4_addFirst_24, eX4_addFirst_25, eX4_addFirst_28, eX4_addFirst_29, eX4_addFirst_32, eX4_addFirst_33, eX4_addFirst_36, eX4_addFirst_37, eX4_addFirst_38, eX4_addFirst_39, eX4_addFirst_40, eX4_addFirst_43, eX4_addFirst_44, eX4_addFirst_45, eX4_addFirst_48, List.getElem?_cons_zero, List.getElem?_cons_succ, Option.some.injEq, Value.int.injEq, Value.long.injEq, Value.ref.injEq, reduceCtorEq, exists_eq_left', exists_eq_left, exists_and_left, exists_and_right, and_assoc, and_true, true_and, true_or, or_true, x_rfv_ref, x_rfv_null, Prod.mk.injEq, List.set_cons_zero, List.set_cons_succ, List.length_cons, List.length_nil, Value.category, x_nl0, x_nl1, x_nl2, x_nl3, x_nl4, x_nl5, x_nl6, x_nl7, x_nl8, x_nl9, x_nl10, x_nl11, x_nl12, List.map_nil, List.map_cons, List.sum_nil, List.sum_cons, Option.toList_some, Option.toList_none, List.nil_append, List.cons_append, xl_lt, xl_gt, xl_eq, ↓reduceIte, Nat.reduceLT, Nat.reduceAdd, Nat.reduceLeDiff, x_up_self, x_uu, lt0, ln0, lx0, lt1, ln1, lx1, lt2, ln2, lx2, lt3, ln3, lx3, lt4, ln4, lx4, lt5, ln5, lx5, lt6, ln6, lx6, lt7, ln7, lx7, lt8, ln8, lx8, lt9, ln9, lx9, lt10, ln10, lx10, lt11, ln11, lx11, lt12, ln12, lx12, lt13, ln13, lx13, lt14, ln14, lx14, lt15, ln15, lx15, lt16, ln16, lx16, lt17, ln17, lx17, lt18, ln18, lx18, lt19, ln19, lx19, lt20, ln20, lx20, lt21, ln21, lx21, lt22, ln22, lx22, lt23, ln23, lx23, lt24, ln24, lx24, la0, la1, la2, la3, la4, la5, la6, la7, la8, la9, la10, la11, la12, lb0, lb1, lb2, lb3, lb4, lb5, lb6, lb7, lb8, lb9, lb10, lb11, lb12, lt60, lt400, lt900, ltm1, ltm2, ltm4, ltm10000, lt10000, lt1000000, ltm1000000, lt10000000, lt2000, lt100000, Int.toNat_natCast, i1ne0, i0eq0, Int.reduceLT, Int.reduceLE, Int.reduceToNat, Int.reduceNeg, not_true, not_false_iff, false_imp_iff, true_imp_iff, imp_self, implies_true, Option.isSome_some, Bool.false_eq_true, h1, h2, hx, t2, e0, nI_1, hB.1, hB.2, hs, x_up_ne _ _ nab, x_up_ne _ _ nab.symm, x_up_ne _ _ nxa, nI_nat (show (hn + 399) % 400 < 2 ^ 31 by omega)]
  rw [if_pos (by omega)]
  refine ⟨by decide, h _ ⟨V.set ((hn + 399) % 400) (.ref x), ?_, ?_, rg_cons hr hlt⟩ fun q q1 q2 => ?_⟩
  · simp [x_up]
  · simp [x_up, nab.symm]
  · simp [x_up, q1, q2]
theorem s_takeFirst0 {B : Nat} {ad : Nat → Nat} {a b hn : Nat} {V : List Value} {σ : xW} {K : xK} (hl : lnc σ.1 a b V hn []) (h : K (some .null) σ) : x_cl (eX4_takeFirst B ad) [.ref a] σ K := by
  refine x_ev_of (by simp [x_sl, Value.category]) ?_
  show wX4_takeFirst B ad K 0 [.ref a, .retAddr 0] [] σ
  simp only [eX4_takeFirst_0, eX4_takeFirst_1, eX4_takeFirst_2, eX4_takeFirst_5, eX4_takeFirst_6, eX4_takeFirst_7, eX4_takeFirst_10, eX4_takeFirst_11, eX4_takeFirst_12, eX4_takeFirst_15, eX4_takeFirst_16, eX4_takeFirst_17, eX4_takeFirst_20, eX4_takeFirst_21, eX4_takeFirst_24, eX4_takeFirst_25, eX4_takeFirst_26, eX4_takeFirst_29, eX4_takeFirst_30, eX4_takeFirst_31, eX4_takeFirst_34, eX4_takeFirst_35, List.getElem?_cons_zero, List.getElem?_cons_succ, Option.some.injEq, Value.int.injEq, Value.long.injEq, Value.ref.injEq, reduceCtorEq, exists_eq_left', exists_eq_left, exists_and_left, exists_and_right, and_assoc, and_true, true_and, true_or, or_true, x_rfv_ref, x_rfv_null, Prod.mk.injEq, List.set_cons_zero, List.set_cons_succ, List.length_cons, List.length_nil, Value.category, x_nl0, x_nl1, x_nl2, x_nl3, x_nl4, x_nl5, x_nl6, x_nl7, x_nl8, x_nl9, x_nl10, x_nl11, x_nl12, List.map_nil, List.map_cons, List.sum_nil, List.sum_cons, Option.toList_some, Option.toList_none, List.nil_append, List.cons_append, xl_lt, xl_gt, xl_eq, ↓reduceIte, Nat.reduceLT, Nat.reduceAdd, Nat.reduceLeDiff, x_up_self, x_uu, x_clv hl.1]
  refine s_look (k := 0) hl (by decide) ?_
  simp only [eX4_takeFirst_0, eX4_takeFirst_1, eX4_takeFirst_2, eX4_takeFirst_5, eX4_takeFirst_6, eX4_takeFirst_7, eX4_takeFirst_10, eX4_takeFirst_11, eX4_takeFirst_12, eX4_takeFirst_15, eX4_takeFirst_16, eX4_takeFirst_17, eX4_takeFirst_20, eX4_takeFirst_21, eX4_takeFirst_24, eX4_takeFirst_25, eX4_takeFirst_26, eX4_takeFirst_29, eX4_takeFirst_30, eX4_takeFirst_31, eX4_takeFirst_34, eX4_takeFirst_35, List.getElem?_cons_zero, List.getElem?_cons_succ, Option.some.injEq, Value.int.injEq, Value.long.injEq, Value.ref.injEq, reduceCtorEq, exists_eq_left', exists_eq_left, exists_and_left, exists_and_right, and_assoc, and_true, true_and, true_or, or_true, x_rfv_ref, x_rfv_null, Prod.mk.injEq, List.set_cons_zero, List.set_cons_succ, List.length_cons, List.length_nil, Value.category, x_nl0, x_nl1, x_nl2, x_nl3, x_nl4, x_nl5, x_nl6, x_nl7, x_nl8, x_nl9, x_nl10, x_nl11, x_nl12, List.map_nil, List.map_cons, List.sum_nil, List.sum_cons, Option.toList_some, Option.toList_none, List.nil_append, List.cons_append, xl_lt, xl_gt, xl_eq, ↓reduceIte, Nat.reduceLT, Nat.reduceAdd, Nat.reduceLeDiff, x_up_self, x_uu, List.getElem?_nil, rfo]
  exact h
theorem s_takeFirst {B : Nat} {ad : Nat → Nat} {a b hn x : Nat} {V : List Value} {l : List Nat} {σ : xW} {K : xK} (hl : lnc σ.1 a b V hn (x :: l)) (hB : B ≤ a) (h : ∀ w' : xM, lnc w' a b V ((hn + 1) % 400) l → (∀ q, q ≠ a → w' q = σ.1 q) → K (some (.ref x)) (w', σ.2)) : x_cl (eX4_takeFirst B ad) [.ref a] σ K := by
  have nab := x_tag hl.1 hl.2.1 (by decide)
  have hg2 := hl.2.2.2.1
  refine x_ev_of (by simp [x_sl, Value.category]) ?_
  show wX4_takeFirst B ad K 0 [.ref a, .retAddr 0] [] σ
  simp only [eX4_takeFirst_0, eX4_takeFirst_1, eX4_takeFirst_2, eX4_takeFirst_5, eX4_takeFirst_6, eX4_takeFirst_7, eX4_takeFirst_10, eX4_takeFirst_11, eX4_takeFirst_12, eX4_takeFirst_15, eX4_takeFirst_16, eX4_takeFirst_17, eX4_takeFirst_20, eX4_takeFirst_21, eX4_takeFirst_24, eX4_takeFirst_25, eX4_takeFirst_26, eX4_takeFirst_29, eX4_takeFirst_30, eX4_takeFirst_31, eX4_takeFirst_34, eX4_takeFirst_35, List.getElem?_cons_zero, List.getElem?_cons_succ, Option.some.injEq, Value.int.injEq, Value.long.injEq, Value.ref.injEq, reduceCtorEq, exists_eq_left', exists_eq_left, exists_and_left, exists_and_right, and_assoc, and_true, true_and, true_or, or_true, x_rfv_ref, x_rfv_null, Prod.mk.injEq, List.set_cons_zero, List.set_cons_succ, List.length_cons, List.length_nil, Value.category, x_nl0, x_nl1, x_nl2, x_nl3, x_nl4, x_nl5, x_nl6, x_nl7, x_nl8, x_nl9, x_nl10, x_nl11, x_nl12, List.map_nil, List.map_cons, List.sum_nil, List.sum_cons, Option.toList_some, Option.toList_none, List.nil_append, List.cons_append, xl_lt, xl_gt, xl_eq, ↓reduceIte, Nat.reduceLT, Nat.reduceAdd, Nat.reduceLeDiff, x_up_self, x_uu, x_clv hl.1]
  refine s_look (k := 0) hl (by decide) ?_
  have e1 : nI hn + 1 - (nI hn + 1) / 400 * 400 = nI ((hn + 1) % 400) := by
    rw [nI_1]
    exact rm400 (by omega)
  have e2 : nI (l.length + 1) - 1 = nI l.length := nI_pred _
  simp only [eX4_takeFirst_0, eX4_takeFirst_1, eX4_takeFirst_2, eX4_takeFirst_5, eX4_takeFirst_6, eX4_takeFirst_7, eX4_takeFirst_10, eX4_takeFirst_11, eX4_takeFirst_12, eX4_takeFirst_15, eX4_takeFirst_16, eX4_takeFirst_17, eX4_takeFirst_20, eX4_takeFirst_21, eX4_takeFirst_24, eX4_takeFirst_25, eX4_takeFirst_26, eX4_takeFirst_29, eX4_takeFirst_30, eX4_takeFirst_31, eX4_takeFirst_34, eX4_takeFirst_35, List.getElem?_cons_zero, List.getElem?_cons_succ, Option.some.injEq, Value.int.injEq, Value.long.injEq, Value.ref.injEq, reduceCtorEq, exists_eq_left', exists_eq_left, exists_and_left, exists_and_right, and_assoc, and_true, true_and, true_or, or_true, x_rfv_ref, x_rfv_null, Prod.mk.injEq, List.set_cons_zero, List.set_cons_succ, List.length_cons, List.length_nil, Value.category, x_nl0, x_nl1, x_nl2, x_nl3, x_nl4, x_nl5, x_nl6, x_nl7, x_nl8, x_nl9, x_nl10, x_nl11, x_nl12, List.map_nil, List.map_cons, List.sum_nil, List.sum_cons, Option.toList_some, Option.toList_none, List.nil_append, List.cons_append, xl_lt, xl_gt, xl_eq, ↓reduceIte, Nat.reduceLT, Nat.reduceAdd, Nat.reduceLeDiff, x_up_self, x_uu, rfo, hl.1, hB, e1, e2]
  refine ⟨by decide, h _ ⟨?_, ?_, rg_tail hl.2.2⟩ fun q q1 => ?_⟩
  · simp [x_up]
  · simp [x_up, nab.symm, hl.2.1]
  · simp [x_up, q1]
