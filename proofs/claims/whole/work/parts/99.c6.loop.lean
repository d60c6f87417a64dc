/-! THE LAW: its loop, its start -/
set_option maxRecDepth 20000 in
theorem law_l {B : Nat} {ad : Nat → Nat} {K : xK} {V : List Value} {xs : Nat → Int32} {b L x0 : Nat} {M : Nat → Nat} (hV : ∀ k, k < L → V[k]? = some (.int (xs k))) (hVl : V.length = L) (hL : L ≤ 2560) (hK : ∀ w N sl, N ≤ B + 601024 → sl ≤ 7293034 → K (some (.int 1)) (w, N, sl)) : ∀ f i it (S : MS) (A : Nat → Nat) (th : Int32) (y : Int64) (σ : xW) (v5 v6 : Value), L ≤ i + 5 * f + 4 → 5 * it = i → i ≤ L + 4 → A 0 = x0 → JJ B ad V b it S S A M th y σ → wL_law B ad K 23 [.ref b, .ref x0, .ref (M 0), .ref (B + 45), .int (nI i), v5, v6] [] σ := by
  have stop : ∀ i it (S : MS) (A : Nat → Nat) (th : Int32) (y : Int64) (σ : xW) (v5 v6 : Value), L ≤ i + 4 → i ≤ L + 4 → JJ B ad V b it S S A M th y σ → wL_law B ad K 23 [.ref b, .ref x0, .ref (M 0), .ref (B + 45), .int (nI i), v5, v6] [] σ := by
    intro i it S A th y σ v5 v6 h1 h2 j
    have hb := j.2.2.2.2.2.2.2.2.2.2.1
    have h60 := j.1.2.2.2.2.2.2.1
    obtain ⟨q1, q2, q3, q4⟩ := j.2.2.2.2.2.2.2.2.2.2.2.2.2.2.2
    have en : Int32.ofNat V.length = nI L := by rw [hVl]; rfl
    have t1 : (nI i).toInt = (i : Int) := nI_toInt (by omega)
    have t2 : (nI L - 5).toInt = (L : Int) - 5 := by
      have d5 : (5 : Int32).toInt = 5 := by decide
      have e : (nI L).toInt = (L : Int) := nI_toInt (by omega)
      rw [i32_sub (by rw [e, d5]; omega), e, d5]
    rw [eL_law_23]
    simp only [eL_law_25, eL_law_26, eL_law_27, eL_law_28, eL_law_29, List.getElem?_cons_zero, List.getElem?_cons_succ, Option.some.injEq, Value.int.injEq, Value.long.injEq, Value.ref.injEq, reduceCtorEq, exists_eq_left', exists_eq_left, exists_and_left, exists_and_right, and_assoc, and_true, true_and, true_or, or_true, x_rfv_ref, x_rfv_null, Prod.mk.injEq, List.set_cons_zero, List.set_cons_succ, List.length_cons, List.length_nil, Value.category, x_nl0, x_nl1, x_nl2, x_nl3, x_nl4, x_nl5, x_nl6, x_nl7, x_nl8, x_nl9, x_nl10, x_nl11, x_nl12, List.map_nil, List.map_cons, List.sum_nil, List.sum_cons, Option.toList_some, Option.toList_none, List.nil_append, List.cons_append, xl_lt, xl_gt, xl_eq, ↓reduceIte, Nat.reduceLT, Nat.reduceAdd, Nat.reduceLeDiff, x_up_self, x_uu, lt0, ln0, lx0, lt1, ln1, lx1, lt2, ln2, lx2, lt3, ln3, lx3, lt4, ln4, lx4, lt5, ln5, lx5, lt6, ln6, lx6, lt7, ln7, lx7, lt8, ln8, lx8, lt9, ln9, lx9, lt10, ln10, lx10, lt11, ln11, lx11, lt12, ln12, lx12, lt13, ln13, lx13, lt14, ln14, lx14, lt15, ln15, lx15, lt16, ln16, lx16, lt17, ln17, lx17, lt18, ln18, lx18, lt19, ln19, lx19, lt20, ln20, lx20, lt21, ln21, lx21, lt22, ln22, lx22, lt23, ln23, lx23, lt24, ln24, lx24, la0, la1, la2, la3, la4, la5, la6, la7, la8, la9, la10, la11, la12, lb0, lb1, lb2, lb3, lb4, lb5, lb6, lb7, lb8, lb9, lb10, lb11, lb12, lt60, lt400, lt900, ltm1, ltm2, ltm4, ltm10000, lt10000, lt1000000, ltm1000000, lt10000000, lt2000, lt100000, Int.toNat_natCast, i1ne0, i0eq0, Int.reduceLT, Int.reduceLE, Int.reduceToNat, Int.reduceNeg, not_true, not_false_iff, false_imp_iff, true_imp_iff, imp_self, implies_true, Option.isSome_some, Bool.false_eq_true, hb, en, t1, t2]
    rw [if_pos (by omega)]
    simp only [eL_law_768, eL_law_769, List.getElem?_cons_zero, List.getElem?_cons_succ, Option.some.injEq, Value.int.injEq, Value.long.injEq, Value.ref.injEq, reduceCtorEq, exists_eq_left', exists_eq_left, exists_and_left, exists_and_right, and_assoc, and_true, true_and, true_or, or_true, x_rfv_ref, x_rfv_null, Prod.mk.injEq, List.set_cons_zero, List.set_cons_succ, List.length_cons, List.length_nil, Value.category, x_nl0, x_nl1, x_nl2, x_nl3, x_nl4, x_nl5, x_nl6, x_nl7, x_nl8, x_nl9, x_nl10, x_nl11, x_nl12, List.map_nil, List.map_cons, List.sum_nil, List.sum_cons, Option.toList_some, Option.toList_none, List.nil_append, List.cons_append, xl_lt, xl_gt, xl_eq, ↓reduceIte, Nat.reduceLT, Nat.reduceAdd, Nat.reduceLeDiff, x_up_self, x_uu, lt0, ln0, lx0, lt1, ln1, lx1, lt2, ln2, lx2, lt3, ln3, lx3, lt4, ln4, lx4, lt5, ln5, lx5, lt6, ln6, lx6, lt7, ln7, lx7, lt8, ln8, lx8, lt9, ln9, lx9, lt10, ln10, lx10, lt11, ln11, lx11, lt12, ln12, lx12, lt13, ln13, lx13, lt14, ln14, lx14, lt15, ln15, lx15, lt16, ln16, lx16, lt17, ln17, lx17, lt18, ln18, lx18, lt19, ln19, lx19, lt20, ln20, lx20, lt21, ln21, lx21, lt22, ln22, lx22, lt23, ln23, lx23, lt24, ln24, lx24, la0, la1, la2, la3, la4, la5, la6, la7, la8, la9, la10, la11, la12, lb0, lb1, lb2, lb3, lb4, lb5, lb6, lb7, lb8, lb9, lb10, lb11, lb12, lt60, lt400, lt900, ltm1, ltm2, ltm4, ltm10000, lt10000, lt1000000, ltm1000000, lt10000000, lt2000, lt100000, Int.toNat_natCast, i1ne0, i0eq0, Int.reduceLT, Int.reduceLE, Int.reduceToNat, Int.reduceNeg, not_true, not_false_iff, false_imp_iff, true_imp_iff, imp_self, implies_true, Option.isSome_some, Bool.false_eq_true]
    exact hK σ.1 σ.2.1 σ.2.2 (by omega) (by omega)
  intro f
  induction f with
  | zero =>
    intro i it S A th y σ v5 v6 h1 h2 h3 h4 j
    exact stop i it S A th y σ v5 v6 (by omega) h3 j
  | succ f ih =>
    intro i it S A th y σ v5 v6 h1 h2 h3 h4 j
    rcases Nat.lt_or_ge (i + 4) L with hlt | hge
    · subst h4
      have hb := j.2.2.2.2.2.2.2.2.2.2.1
      have hit : it < 600 := by omega
      have en : Int32.ofNat V.length = nI L := by rw [hVl]; rfl
      have t1 : (nI i).toInt = (i : Int) := nI_toInt (by omega)
      have t2 : (nI L - 5).toInt = (L : Int) - 5 := by
        have d5 : (5 : Int32).toInt = 5 := by decide
        have e : (nI L).toInt = (L : Int) := nI_toInt (by omega)
        rw [i32_sub (by rw [e, d5]; omega), e, d5]
      have hx0 : x_ix (nI i) V = some (.int (xs i)) := by rw [x_ix_nI (by omega)]; exact hV i (by omega)
      have n5 : nI i + 5 = nI (i + 5) := nI_add i 5
      have nx : ∀ S' A' th' y' σ' u5 u6, A' 0 = A 0 → JJ B ad V b (it + 1) S' S' A' M th' y' σ' → wL_law B ad K 762 [.ref b, .ref (A 0), .ref (M 0), .ref (B + 45), .int (nI i), u5, u6] [] σ' := by
        intro S' A' th' y' σ' u5 u6 e j'
        simp only [eL_law_762, eL_law_765, List.getElem?_cons_zero, List.getElem?_cons_succ, Option.some.injEq, Value.int.injEq, Value.long.injEq, Value.ref.injEq, reduceCtorEq, exists_eq_left', exists_eq_left, exists_and_left, exists_and_right, and_assoc, and_true, true_and, true_or, or_true, x_rfv_ref, x_rfv_null, Prod.mk.injEq, List.set_cons_zero, List.set_cons_succ, List.length_cons, List.length_nil, Value.category, x_nl0, x_nl1, x_nl2, x_nl3, x_nl4, x_nl5, x_nl6, x_nl7, x_nl8, x_nl9, x_nl10, x_nl11, x_nl12, List.map_nil, List.map_cons, List.sum_nil, List.sum_cons, Option.toList_some, Option.toList_none, List.nil_append, List.cons_append, xl_lt, xl_gt, xl_eq, ↓reduceIte, Nat.reduceLT, Nat.reduceAdd, Nat.reduceLeDiff, x_up_self, x_uu, lt0, ln0, lx0, lt1, ln1, lx1, lt2, ln2, lx2, lt3, ln3, lx3, lt4, ln4, lx4, lt5, ln5, lx5, lt6, ln6, lx6, lt7, ln7, lx7, lt8, ln8, lx8, lt9, ln9, lx9, lt10, ln10, lx10, lt11, ln11, lx11, lt12, ln12, lx12, lt13, ln13, lx13, lt14, ln14, lx14, lt15, ln15, lx15, lt16, ln16, lx16, lt17, ln17, lx17, lt18, ln18, lx18, lt19, ln19, lx19, lt20, ln20, lx20, lt21, ln21, lx21, lt22, ln22, lx22, lt23, ln23, lx23, lt24, ln24, lx24, la0, la1, la2, la3, la4, la5, la6, la7, la8, la9, la10, la11, la12, lb0, lb1, lb2, lb3, lb4, lb5, lb6, lb7, lb8, lb9, lb10, lb11, lb12, lt60, lt400, lt900, ltm1, ltm2, ltm4, ltm10000, lt10000, lt1000000, ltm1000000, lt10000000, lt2000, lt100000, Int.toNat_natCast, i1ne0, i0eq0, Int.reduceLT, Int.reduceLE, Int.reduceToNat, Int.reduceNeg, not_true, not_false_iff, false_imp_iff, true_imp_iff, imp_self, implies_true, Option.isSome_some, Bool.false_eq_true, n5]
        exact ih (i + 5) (it + 1) S' A' th' y' σ' u5 u6 (by omega) (by omega) (by omega) e j'
      rw [eL_law_23]
      simp only [eL_law_25, eL_law_26, eL_law_27, eL_law_28, eL_law_29, List.getElem?_cons_zero, List.getElem?_cons_succ, Option.some.injEq, Value.int.injEq, Value.long.injEq, Value.ref.injEq, reduceCtorEq, exists_eq_left', exists_eq_left, exists_and_left, exists_and_right, and_assoc, and_true, true_and, true_or, or_true, x_rfv_ref, x_rfv_null, Prod.mk.injEq, List.set_cons_zero, List.set_cons_succ, List.length_cons, List.length_nil, Value.category, x_nl0, x_nl1, x_nl2, x_nl3, x_nl4, x_nl5, x_nl6, x_nl7, x_nl8, x_nl9, x_nl10, x_nl11, x_nl12, List.map_nil, List.map_cons, List.sum_nil, List.sum_cons, Option.toList_some, Option.toList_none, List.nil_append, List.cons_append, xl_lt, xl_gt, xl_eq, ↓reduceIte, Nat.reduceLT, Nat.reduceAdd, Nat.reduceLeDiff, x_up_self, x_uu, lt0, ln0, lx0, lt1, ln1, lx1, lt2, ln2, lx2, lt3, ln3, lx3, lt4, ln4, lx4, lt5, ln5, lx5, lt6, ln6, lx6, lt7, ln7, lx7, lt8, ln8, lx8, lt9, ln9, lx9, lt10, ln10, lx10, lt11, ln11, lx11, lt12, ln12, lx12, lt13, ln13, lx13, lt14, ln14, lx14, lt15, ln15, lx15, lt16, ln16, lx16, lt17, ln17, lx17, lt18, ln18, lx18, lt19, ln19, lx19, lt20, ln20, lx20, lt21, ln21, lx21, lt22, ln22, lx22, lt23, ln23, lx23, lt24, ln24, lx24, la0, la1, la2, la3, la4, la5, la6, la7, la8, la9, la10, la11, la12, lb0, lb1, lb2, lb3, lb4, lb5, lb6, lb7, lb8, lb9, lb10, lb11, lb12, lt60, lt400, lt900, ltm1, ltm2, ltm4, ltm10000, lt10000, lt1000000, ltm1000000, lt10000000, lt2000, lt100000, Int.toNat_natCast, i1ne0, i0eq0, Int.reduceLT, Int.reduceLE, Int.reduceToNat, Int.reduceNeg, not_true, not_false_iff, false_imp_iff, true_imp_iff, imp_self, implies_true, Option.isSome_some, Bool.false_eq_true, hb, en, t1, t2]
      rw [if_neg (by omega)]
      simp only [eL_law_32, eL_law_33, eL_law_35, eL_law_36, eL_law_38, List.getElem?_cons_zero, List.getElem?_cons_succ, Option.some.injEq, Value.int.injEq, Value.long.injEq, Value.ref.injEq, reduceCtorEq, exists_eq_left', exists_eq_left, exists_and_left, exists_and_right, and_assoc, and_true, true_and, true_or, or_true, x_rfv_ref, x_rfv_null, Prod.mk.injEq, List.set_cons_zero, List.set_cons_succ, List.length_cons, List.length_nil, Value.category, x_nl0, x_nl1, x_nl2, x_nl3, x_nl4, x_nl5, x_nl6, x_nl7, x_nl8, x_nl9, x_nl10, x_nl11, x_nl12, List.map_nil, List.map_cons, List.sum_nil, List.sum_cons, Option.toList_some, Option.toList_none, List.nil_append, List.cons_append, xl_lt, xl_gt, xl_eq, ↓reduceIte, Nat.reduceLT, Nat.reduceAdd, Nat.reduceLeDiff, x_up_self, x_uu, lt0, ln0, lx0, lt1, ln1, lx1, lt2, ln2, lx2, lt3, ln3, lx3, lt4, ln4, lx4, lt5, ln5, lx5, lt6, ln6, lx6, lt7, ln7, lx7, lt8, ln8, lx8, lt9, ln9, lx9, lt10, ln10, lx10, lt11, ln11, lx11, lt12, ln12, lx12, lt13, ln13, lx13, lt14, ln14, lx14, lt15, ln15, lx15, lt16, ln16, lx16, lt17, ln17, lx17, lt18, ln18, lx18, lt19, ln19, lx19, lt20, ln20, lx20, lt21, ln21, lx21, lt22, ln22, lx22, lt23, ln23, lx23, lt24, ln24, lx24, la0, la1, la2, la3, la4, la5, la6, la7, la8, la9, la10, la11, la12, lb0, lb1, lb2, lb3, lb4, lb5, lb6, lb7, lb8, lb9, lb10, lb11, lb12, lt60, lt400, lt900, ltm1, ltm2, ltm4, ltm10000, lt10000, lt1000000, ltm1000000, lt10000000, lt2000, lt100000, Int.toNat_natCast, i1ne0, i0eq0, Int.reduceLT, Int.reduceLE, Int.reduceToNat, Int.reduceNeg, not_true, not_false_iff, false_imp_iff, true_imp_iff, imp_self, implies_true, Option.isSome_some, Bool.false_eq_true, hb, hx0]
      rcases ic_0_16 (xs i &&& 31) with hc | hc | hc | hc | hc | hc | hc | hc | hc | hc | hc | hc | hc | hc | hc | hc | hc | hc
      · rw [eL_law_39_o hc]; exact nx S A th y σ v5 v6 rfl (js j hit)
      · rw [hc, eL_law_39_0]; exact lw_set hV hL hlt j hit nx
      · rw [hc, eL_law_39_1]; exact lw_cls hV hL hlt j hit nx
      · rw [hc, eL_law_39_2]; exact lw_box hV hL hlt j hit nx
      · rw [hc, eL_law_39_3]; exact lw_glue hV hL hlt j hit nx
      · rw [hc, eL_law_39_4]; exact lw_kern hV hL hlt j hit nx
      · rw [hc, eL_law_39_5]; exact lw_penalty hV hL hlt j hit nx
      · rw [hc, eL_law_39_6]; exact lw_insert hV hL hlt j hit nx
      · rw [hc, eL_law_39_7]; exact lw_mark hV hL hlt j hit nx
      · rw [hc, eL_law_39_8]; exact lw_run hV hL hlt j hit nx
      · rw [hc, eL_law_39_9]; exact lw_at hV hL hlt j hit nx
      · rw [hc, eL_law_39_10]; exact lw_part hV hL hlt j hit nx
      · rw [hc, eL_law_39_11]; exact lw_told hV hL hlt j hit nx
      · rw [hc, eL_law_39_12]; exact lw_marked hV hL hlt j hit fun S' A' th' y' σ' u5 u6 _ e j' => nx S' A' th' y' σ' u5 u6 e j'
      · rw [hc, eL_law_39_13]; exact lw_now hV hL hlt j hit nx
      · rw [hc, eL_law_39_14]; exact lw_badness hV hL hlt j hit nx
      · rw [hc, eL_law_39_15]; exact lw_count hV hL hlt j hit nx
      · rw [hc, eL_law_39_16]; exact lw_check hV hL hlt j hit nx
    · exact stop i it S A th y σ v5 v6 (by omega) h3 j
/-- the reference's addresses: codes that it has no cell for lie far away -/
def fM (M : Nat → Nat) (F : Nat) : Nat → Nat := fun c => if c ∈ mul then M c else F + c
theorem mM_mul {a N c : Nat} (h : c ∈ mul) : (c = 0 ∧ mM a N c = a) ∨ (c ≠ 0 ∧ N ≤ mM a N c ∧ mM a N c < N + 27) := by
  by_cases h0 : c = 0
  · exact Or.inl ⟨h0, by unfold mM; rw [if_pos h0]⟩
  · refine Or.inr ⟨h0, ?_⟩
    have h1 : ∀ c, c ∈ mul → c ≠ 0 → c ≠ 1 ∧ mMg c < 27 := by decide
    have h2 := h1 c h h0
    unfold mM
    rw [if_neg h0, if_neg h2.1]
    omega
theorem fM_inj {M : Nat → Nat} {F : Nat} (hM : ainj M) (hF : ∀ c, c ∈ mul → M c < F) : ainj (fM M F) := fun c d e => by
  unfold fM at e
  by_cases hc : c ∈ mul <;> by_cases hd : d ∈ mul
  · rw [if_pos hc, if_pos hd] at e; exact hM c d e
  · rw [if_pos hc, if_neg hd] at e; have := hF c hc; omega
  · rw [if_neg hc, if_pos hd] at e; have := hF d hd; omega
  · rw [if_neg hc, if_neg hd] at e; omega
set_option maxRecDepth 20000 in
theorem law_0 {B : Nat} {ad : Nat → Nat} {K : xK} {V : List Value} {xs : Nat → Int32} {b L : Nat} {w : xM} (hV : ∀ k, k < L → V[k]? = some (.int (xs k))) (hVl : V.length = L) (hL : L ≤ 2560) (hK : ∀ w N sl, N ≤ B + 601024 → sl ≤ 7293034 → K (some (.int 1)) (w, N, sl)) (hb : w b = some (106, V)) (hbB : b < B) (kn : knd w ad) (had : ∀ i, i < 6 → ad i < B) : wL_law B ad K 0 [.ref b, .retAddr 0, .retAddr 0, .retAddr 0, .retAddr 0, .retAddr 0, .retAddr 0] [] (w, B, 0) := by
  simp only [eL_law_0, eL_law_3, eL_law_4, List.getElem?_cons_zero, List.getElem?_cons_succ, Option.some.injEq, Value.int.injEq, Value.long.injEq, Value.ref.injEq, reduceCtorEq, exists_eq_left', exists_eq_left, exists_and_left, exists_and_right, and_assoc, and_true, true_and, true_or, or_true, x_rfv_ref, x_rfv_null, Prod.mk.injEq, List.set_cons_zero, List.set_cons_succ, List.length_cons, List.length_nil, Value.category, x_nl0, x_nl1, x_nl2, x_nl3, x_nl4, x_nl5, x_nl6, x_nl7, x_nl8, x_nl9, x_nl10, x_nl11, x_nl12, List.map_nil, List.map_cons, List.sum_nil, List.sum_cons, Option.toList_some, Option.toList_none, List.nil_append, List.cons_append, xl_lt, xl_gt, xl_eq, ↓reduceIte, Nat.reduceLT, Nat.reduceAdd, Nat.reduceLeDiff, x_up_self, x_uu, lt0, ln0, lx0, lt1, ln1, lx1, lt2, ln2, lx2, lt3, ln3, lx3, lt4, ln4, lx4, lt5, ln5, lx5, lt6, ln6, lx6, lt7, ln7, lx7, lt8, ln8, lx8, lt9, ln9, lx9, lt10, ln10, lx10, lt11, ln11, lx11, lt12, ln12, lx12, lt13, ln13, lx13, lt14, ln14, lx14, lt15, ln15, lx15, lt16, ln16, lx16, lt17, ln17, lx17, lt18, ln18, lx18, lt19, ln19, lx19, lt20, ln20, lx20, lt21, ln21, lx21, lt22, ln22, lx22, lt23, ln23, lx23, lt24, ln24, lx24, la0, la1, la2, la3, la4, la5, la6, la7, la8, la9, la10, la11, la12, lb0, lb1, lb2, lb3, lb4, lb5, lb6, lb7, lb8, lb9, lb10, lb11, lb12, lt60, lt400, lt900, ltm1, ltm2, ltm4, ltm10000, lt10000, lt1000000, ltm1000000, lt10000000, lt2000, lt100000, Int.toNat_natCast, i1ne0, i0eq0, Int.reduceLT, Int.reduceLE, Int.reduceToNat, Int.reduceNeg, not_true, not_false_iff, false_imp_iff, true_imp_iff, imp_self, implies_true, Option.isSome_some, Bool.false_eq_true, x_cl1]
  refine s_initC (by omega) (Nat.le_refl B) (x_up_self _ _ _) fun w1 hR1 hf1 => ?_
  have k1 : ∀ q, q < B → w1 q = w q := fun q hq => by rw [hf1 q (by omega) (by omega), x_up_ne _ _ (by omega)]
  simp only [eL_law_7, eL_law_8, eL_law_11, eL_law_12, List.getElem?_cons_zero, List.getElem?_cons_succ, Option.some.injEq, Value.int.injEq, Value.long.injEq, Value.ref.injEq, reduceCtorEq, exists_eq_left', exists_eq_left, exists_and_left, exists_and_right, and_assoc, and_true, true_and, true_or, or_true, x_rfv_ref, x_rfv_null, Prod.mk.injEq, List.set_cons_zero, List.set_cons_succ, List.length_cons, List.length_nil, Value.category, x_nl0, x_nl1, x_nl2, x_nl3, x_nl4, x_nl5, x_nl6, x_nl7, x_nl8, x_nl9, x_nl10, x_nl11, x_nl12, List.map_nil, List.map_cons, List.sum_nil, List.sum_cons, Option.toList_some, Option.toList_none, List.nil_append, List.cons_append, xl_lt, xl_gt, xl_eq, ↓reduceIte, Nat.reduceLT, Nat.reduceAdd, Nat.reduceLeDiff, x_up_self, x_uu, lt0, ln0, lx0, lt1, ln1, lx1, lt2, ln2, lx2, lt3, ln3, lx3, lt4, ln4, lx4, lt5, ln5, lx5, lt6, ln6, lx6, lt7, ln7, lx7, lt8, ln8, lx8, lt9, ln9, lx9, lt10, ln10, lx10, lt11, ln11, lx11, lt12, ln12, lx12, lt13, ln13, lx13, lt14, ln14, lx14, lt15, ln15, lx15, lt16, ln16, lx16, lt17, ln17, lx17, lt18, ln18, lx18, lt19, ln19, lx19, lt20, ln20, lx20, lt21, ln21, lx21, lt22, ln22, lx22, lt23, ln23, lx23, lt24, ln24, lx24, la0, la1, la2, la3, la4, la5, la6, la7, la8, la9, la10, la11, la12, lb0, lb1, lb2, lb3, lb4, lb5, lb6, lb7, lb8, lb9, lb10, lb11, lb12, lt60, lt400, lt900, ltm1, ltm2, ltm4, ltm10000, lt10000, lt1000000, ltm1000000, lt10000000, lt2000, lt100000, Int.toNat_natCast, i1ne0, i0eq0, Int.reduceLT, Int.reduceLE, Int.reduceToNat, Int.reduceNeg, not_true, not_false_iff, false_imp_iff, true_imp_iff, imp_self, implies_true, Option.isSome_some, Bool.false_eq_true, x_cl1]
  have g2 : ∀ q e, q < B + 17 → x_up w1 (B + 1 + 16) e q = w1 q := fun q e hq => x_up_ne _ _ (by omega)
  refine s_initM (by omega) (by omega) (x_up_self _ _ _) fun w2 hR2 hf2 => ?_
  have k2 : ∀ q, q < B + 17 → w2 q = w1 q := fun q hq => by rw [hf2 q (by omega) (by omega), g2 q _ hq]
  have t1 : (1 : Int32).toInt = 1 := by decide
  simp only [eL_law_15, eL_law_16, eL_law_17, eL_law_19, eL_law_20, eL_law_21, List.getElem?_cons_zero, List.getElem?_cons_succ, Option.some.injEq, Value.int.injEq, Value.long.injEq, Value.ref.injEq, reduceCtorEq, exists_eq_left', exists_eq_left, exists_and_left, exists_and_right, and_assoc, and_true, true_and, true_or, or_true, x_rfv_ref, x_rfv_null, Prod.mk.injEq, List.set_cons_zero, List.set_cons_succ, List.length_cons, List.length_nil, Value.category, x_nl0, x_nl1, x_nl2, x_nl3, x_nl4, x_nl5, x_nl6, x_nl7, x_nl8, x_nl9, x_nl10, x_nl11, x_nl12, List.map_nil, List.map_cons, List.sum_nil, List.sum_cons, Option.toList_some, Option.toList_none, List.nil_append, List.cons_append, xl_lt, xl_gt, xl_eq, ↓reduceIte, Nat.reduceLT, Nat.reduceAdd, Nat.reduceLeDiff, x_up_self, x_uu, lt0, ln0, lx0, lt1, ln1, lx1, lt2, ln2, lx2, lt3, ln3, lx3, lt4, ln4, lx4, lt5, ln5, lx5, lt6, ln6, lx6, lt7, ln7, lx7, lt8, ln8, lx8, lt9, ln9, lx9, lt10, ln10, lx10, lt11, ln11, lx11, lt12, ln12, lx12, lt13, ln13, lx13, lt14, ln14, lx14, lt15, ln15, lx15, lt16, ln16, lx16, lt17, ln17, lx17, lt18, ln18, lx18, lt19, ln19, lx19, lt20, ln20, lx20, lt21, ln21, lx21, lt22, ln22, lx22, lt23, ln23, lx23, lt24, ln24, lx24, la0, la1, la2, la3, la4, la5, la6, la7, la8, la9, la10, la11, la12, lb0, lb1, lb2, lb3, lb4, lb5, lb6, lb7, lb8, lb9, lb10, lb11, lb12, lt60, lt400, lt900, ltm1, ltm2, ltm4, ltm10000, lt10000, lt1000000, ltm1000000, lt10000000, lt2000, lt100000, Int.toNat_natCast, i1ne0, i0eq0, Int.reduceLT, Int.reduceLE, Int.reduceToNat, Int.reduceNeg, not_true, not_false_iff, false_imp_iff, true_imp_iff, imp_self, implies_true, Option.isSome_some, Bool.false_eq_true, t1]
  have ha1 := nA_adr (B := B) (a := B) (N := B + 1) (by omega) (Nat.le_refl B)
  have hus : ∀ c, us 0 0 0 c → nA B (B + 1) c < B + 17 := fun c hc => by have := ha1.2.2.1 c hc; omega
  obtain ⟨A', a1, a2⟩ := adr_up (N' := B + 46) ha1 (by omega) (by omega)
  have hmu : ∀ c, c ∈ mul → B + 17 ≤ mM (B + 1 + 16) (B + 1 + 16 + 1) c ∧ mM (B + 1 + 16) (B + 1 + 16 + 1) c < B + 45 := fun c hc => by
    rcases mM_mul (a := B + 1 + 16) (N := B + 1 + 16 + 1) hc with ⟨-, z⟩ | ⟨-, z1, z2⟩ <;> omega
  have hMi : ainj (fM (mM (B + 1 + 16) (B + 1 + 16 + 1)) (B + 10000000)) := fM_inj (mM_inj (by omega)) fun c hc => by have := (hmu c hc).2; omega
  have hMc : ∀ c, (c ∈ mul ∧ fM (mM (B + 1 + 16) (B + 1 + 16 + 1)) (B + 10000000) c = mM (B + 1 + 16) (B + 1 + 16 + 1) c) ∨ (c ∉ mul ∧ fM (mM (B + 1 + 16) (B + 1 + 16 + 1)) (B + 10000000) c = B + 10000000 + c) := fun c => by
    unfold fM
    by_cases hc : c ∈ mul
    · exact Or.inl ⟨hc, if_pos hc⟩
    · exact Or.inr ⟨hc, if_neg hc⟩
  have eN : B + 1 + 16 + 1 + 27 = B + 45 := by omega
  have e0 : fM (mM (B + 1 + 16) (B + 1 + 16 + 1)) (B + 10000000) 0 = B + 1 + 16 := rfl
  have fin : ∀ w3 : xM, w3 (B + 45) = some (101, [.long 0]) → (∀ q, q ≠ B + 45 → w3 q = w2 q) → ∀ sl, sl ≤ 70000 → wL_law B ad K 23 [.ref b, .ref B, .ref (B + 1 + 16), .ref (B + 45), .int 0, .retAddr 0, .retAddr 0] [] (w3, B + 46, sl) := by
    intro w3 h3 hf3 sl hsl
    have k3 : ∀ q, q < B + 17 → w3 q = w1 q := fun q hq => (hf3 q (by omega)).trans (k2 q hq)
    have := law_l (ad := ad) (x0 := B) (M := fM (mM (B + 1 + 16) (B + 1 + 16 + 1)) (B + 10000000)) hV hVl hL hK 512 0 0 m_new A' 0 0 (w3, B + 46, sl) (.retAddr 0) (.retAddr 0) (by omega) rfl (by omega) (a2 0 (us_le (by decide))) ⟨iv_new, RC_mv iv_new hR1 a2 fun c hc => k3 _ (hus c hc), a1, RM_mv hR2 (fun c hc => if_pos hc) fun c hc => hf3 _ (by have := (hmu c hc).2; omega), hMi, fun c => ?_, fun c => ?_, fun c d hc => ?_, ⟨kn.1, rfl⟩, had, ?_, hbB, h3, fun c hc => ?_, fun c => ?_, by dsimp only; omega, by dsimp only; omega, by dsimp only; omega, by omega⟩
    · rw [e0] at this; exact this
    · rcases hMc c with ⟨z1, z2⟩ | ⟨z1, z2⟩
      · rw [z2]; have := (hmu c z1).1; omega
      · rw [z2]; omega
    · rcases hMc c with ⟨z1, z2⟩ | ⟨z1, z2⟩
      · rw [z2]; exact Or.inl ⟨z1, by have := (hmu c z1).2; omega⟩
      · rw [z2]; exact Or.inr ⟨z1, by omega⟩
    · rw [a2 c hc]
      have h1 := hus c hc
      rcases hMc d with ⟨z1, z2⟩ | ⟨z1, z2⟩
      · rw [z2]; have := (hmu d z1).1; omega
      · rw [z2]; omega
    · show w3 b = _
      rw [k3 _ (by omega), k1 _ (by omega)]; exact hb
    · rw [a2 c hc]; have := hus c hc; omega
    · rcases hMc c with ⟨z1, z2⟩ | ⟨z1, z2⟩
      · rw [z2]; have := (hmu c z1).2; omega
      · rw [z2]; omega
  have eN2 : B + 1 + 16 + 1 + 27 + 1 = B + 46 := by omega
  rw [eN2, eN]
  exact fin _ (x_up_self _ _ _) (fun q hq => x_up_ne _ _ hq) _ (by omega)
