/-! THE CLASS: run -/
theorem step_IC (S : MS) : (m_step S).1 = S.1 ∧ (m_step S).2.1 = S.2.1 := by
  obtain ⟨x1, x2, -⟩ := m_ends_eq S
  unfold m_step
  split
  · exact ⟨rfl, rfl⟩
  · split
    · split
      · exact ⟨x1, x2⟩
      · obtain ⟨o1, o2, -⟩ := put_oth (S := m_ends S)
        exact ⟨o1.trans x1, o2.trans x2⟩
    · obtain ⟨o1, o2, -⟩ := put_oth (S := S)
      exact ⟨o1, o2⟩
theorem nwA_adr0 {B N : Nat} {A : Nat → Nat} {ni nc np b k : Nat} (h : adr B N A ni nc np) (hB : B ≤ N) : adr B N (nwA A N ni nc np b k) ni nc np := by
  have h1 : adr B (N + 0) (nwA A N ni nc np b k) ni nc np := by
    obtain ⟨a1, a2, a3, a4⟩ := h
    have cs : ∀ c, (us ni nc np c ∧ nwA A N ni nc np b k c = A c ∧ A c < N) ∨ (¬ us ni nc np c ∧ b ≤ c ∧ c < b + k ∧ nwA A N ni nc np b k c = N + (c - b)) ∨ (¬ us ni nc np c ∧ ¬ (b ≤ c ∧ c < b + k) ∧ nwA A N ni nc np b k c = N + k + c) := fun c => by
      unfold nwA
      by_cases h1 : us ni nc np c
      · exact Or.inl ⟨h1, if_pos h1, a3 c h1⟩
      · by_cases h2 : b ≤ c ∧ c < b + k
        · exact Or.inr (Or.inl ⟨h1, h2.1, h2.2, by rw [if_neg h1, if_pos h2]⟩)
        · exact Or.inr (Or.inr ⟨h1, h2, by rw [if_neg h1, if_neg h2]⟩)
    refine ⟨fun c d e => ?_, fun c => ?_, fun c hc => ?_, fun c hc => ?_⟩
    · rcases cs c with ⟨h1, h2, h3⟩ | ⟨h1, h2, h3, h4⟩ | ⟨h1, h2, h3⟩ <;> rcases cs d with ⟨g1, g2, g3⟩ | ⟨g1, g2, g3, g4⟩ | ⟨g1, g2, g3⟩
      · exact a1 c d (by rw [← h2, ← g2]; exact e)
      all_goals omega
    · rcases cs c with ⟨h1, h2, h3⟩ | ⟨h1, h2, h3, h4⟩ | ⟨h1, h2, h3⟩
      · rw [h2]; exact a2 c
      all_goals omega
    · rcases cs c with ⟨h1, h2, h3⟩ | ⟨h1, h2, h3, h4⟩ | ⟨h1, h2, h3⟩
      · omega
      · exact absurd hc h1
      · exact absurd hc h1
    · rcases cs c with ⟨h1, h2, h3⟩ | ⟨h1, h2, h3, h4⟩ | ⟨h1, h2, h3⟩
      · exact absurd h1 hc
      · omega
      · omega
  exact h1
theorem knd_S {w w' : xM} {ad A : Nat → Nat} {S : MS} {B N : Nat} (hk : knd w ad) (had : ∀ i, i < 6 → ad i < B) (hB : ∀ c, B ≤ A c) (hN : B ≤ N) (hf : frS A S N w w') : knd w' ad := knd_frm hk fun j hj => hf _ (by have := had j hj; omega) fun c _ => by have := had j hj; have := hB c; omega
/-- frames of two steps, with new cells between -/
theorem frS_step {A A1 : Nat → Nat} {S S' : MS} {N N' B : Nat} {w w' w'' : xM} (hA : ∀ c, us S.1.1 S.2.1.1 S.2.2.2.2.2.2.length c → A1 c = A c) (ha : adS B N A1 S) (hN : N ≤ N') (h1 : frS A1 S N w w') (h2 : frS A1 S' N' w' w'') : frS A S N w w'' := fun q hq hu => by
  have hu1 : ∀ c, us S.1.1 S.2.1.1 S.2.2.2.2.2.2.length c → q ≠ A1 c := fun c hc => by rw [hA c hc]; exact hu c hc
  rw [h2 q (by omega) fun c _ => ?_, h1 q hq hu1]
  by_cases hc : us S.1.1 S.2.1.1 S.2.2.2.2.2.2.length c
  · exact hu1 c hc
  · have := ha.2.2.2 c hc
    omega
theorem cr_l {B : Nat} {ad : Nat → Nat} {K : xK} {bf : Int32} {a0 : Nat} (had : ∀ i, i < 6 → ad i < B) : ∀ n st (S : MS) (A : Nat → Nat) (σ : xW), st + n < 100000 → A 0 = a0 → iv S → adS B σ.2.1 A S → B ≤ σ.2.1 → knd σ.1 ad → RC σ.1 ad A S → (∀ k, k < n → m_stop (m_iter k S) = false) → m_stop (m_iter n S) = true →
    (∀ w' N' sl' A', RC w' ad A' (m_iter n S) → adS B N' A' (m_iter n S) → A' 0 = a0 → (∀ c, us (m_iter n S).1.1 (m_iter n S).2.1.1 (m_iter n S).2.2.2.2.2.2.length c → (us S.1.1 S.2.1.1 S.2.2.2.2.2.2.length c ∧ A' c = A c) ∨ σ.2.1 ≤ A' c) → frS A S σ.2.1 σ.1 w' → N' + 6 * S.2.2.2.2.2.2.length = σ.2.1 + 6 * (m_iter n S).2.2.2.2.2.2.length → sl' + 822 * S.2.2.2.2.2.2.length ≤ σ.2.2 + 822 * (m_iter n S).2.2.2.2.2.2.length → S.2.2.2.2.2.2.length ≤ (m_iter n S).2.2.2.2.2.2.length → K (some (.int (nI (m_iter n S).2.2.2.2.2.2.length - bf))) (w', N', sl')) → wX7_run B ad K 9 [.ref a0, .int bf, .int 1, .int (nI st)] [] σ := by
  intro n
  induction n with
  | zero =>
    intro st S A σ hst ha0 hi ha hBN kn hR hgo hs h
    subst ha0
    have ha' := ha
    obtain ⟨a1, a2, a3, a4⟩ := ha'
    have h60 := hi.2.2.2.2.2.2.1
    have nu : ∀ j, j < 6 → ¬ us S.1.1 S.2.1.1 S.2.2.2.2.2.2.length (1000 + 6 * S.2.2.2.2.2.2.length + j) := fun j hj => by
      have := hi.1.1
      have := hi.1.2.1
      unfold us
      omega
    have hA1 := nwA_adr0 (b := 1000 + 6 * S.2.2.2.2.2.2.length) (k := 6) ha hBN
    have hu0 : ∀ c, us S.1.1 S.2.1.1 S.2.2.2.2.2.2.length c → nwA A σ.2.1 S.1.1 S.2.1.1 S.2.2.2.2.2.2.length (1000 + 6 * S.2.2.2.2.2.2.length) 6 c = A c := fun c hc => nwA_u hc
    have hR1 := RC_mv (w' := σ.1) hi hR hu0 fun _ _ => rfl
    have t1 : (nI st).toInt = (st : Int) := nI_toInt (by omega)
    have t2 : (100000 : Int32).toInt = 100000 := by decide
    have h0 := hR.1
    have h0' := h0
    unfold pbc at h0'
    have e00 := hu0 0 (us_le (by decide))
    rw [eX7_run_9]
    simp only [eX7_run_10, eX7_run_13, eX7_run_14, eX7_run_16, List.getElem?_cons_zero, List.getElem?_cons_succ, Option.some.injEq, Value.int.injEq, Value.long.injEq, Value.ref.injEq, reduceCtorEq, exists_eq_left', exists_eq_left, exists_and_left, exists_and_right, and_assoc, and_true, true_and, true_or, or_true, x_rfv_ref, x_rfv_null, Prod.mk.injEq, List.set_cons_zero, List.set_cons_succ, List.length_cons, List.length_nil, Value.category, x_nl0, x_nl1, x_nl2, x_nl3, x_nl4, x_nl5, x_nl6, x_nl7, x_nl8, x_nl9, x_nl10, x_nl11, x_nl12, List.map_nil, List.map_cons, List.sum_nil, List.sum_cons, Option.toList_some, Option.toList_none, List.nil_append, List.cons_append, xl_lt, xl_gt, xl_eq, ↓reduceIte, Nat.reduceLT, Nat.reduceAdd, Nat.reduceLeDiff, x_up_self, x_uu, lt0, ln0, lx0, lt1, ln1, lx1, lt2, ln2, lx2, lt3, ln3, lx3, lt4, ln4, lx4, lt5, ln5, lx5, lt6, ln6, lx6, lt7, ln7, lx7, lt8, ln8, lx8, lt9, ln9, lx9, lt10, ln10, lx10, lt11, ln11, lx11, lt12, ln12, lx12, lt13, ln13, lx13, lt14, ln14, lx14, lt15, ln15, lx15, lt16, ln16, lx16, lt17, ln17, lx17, lt18, ln18, lx18, lt19, ln19, lx19, lt20, ln20, lx20, lt21, ln21, lx21, lt22, ln22, lx22, lt23, ln23, lx23, lt24, ln24, lx24, la0, la1, la2, la3, la4, la5, la6, la7, la8, la9, la10, la11, la12, lb0, lb1, lb2, lb3, lb4, lb5, lb6, lb7, lb8, lb9, lb10, lb11, lb12, lt60, lt400, lt900, ltm1, ltm2, ltm4, ltm10000, lt10000, lt1000000, ltm1000000, lt10000000, lt2000, lt100000, Int.toNat_natCast, i1ne0, i0eq0, Int.reduceLT, Int.reduceLE, Int.reduceToNat, Int.reduceNeg, not_true, not_false_iff, false_imp_iff, true_imp_iff, imp_self, implies_true, Option.isSome_some, Bool.false_eq_true, t1, t2]
    rw [if_pos (by omega)]
    simp only [eX7_run_19, eX7_run_20, List.getElem?_cons_zero, List.getElem?_cons_succ, Option.some.injEq, Value.int.injEq, Value.long.injEq, Value.ref.injEq, reduceCtorEq, exists_eq_left', exists_eq_left, exists_and_left, exists_and_right, and_assoc, and_true, true_and, true_or, or_true, x_rfv_ref, x_rfv_null, Prod.mk.injEq, List.set_cons_zero, List.set_cons_succ, List.length_cons, List.length_nil, Value.category, x_nl0, x_nl1, x_nl2, x_nl3, x_nl4, x_nl5, x_nl6, x_nl7, x_nl8, x_nl9, x_nl10, x_nl11, x_nl12, List.map_nil, List.map_cons, List.sum_nil, List.sum_cons, Option.toList_some, Option.toList_none, List.nil_append, List.cons_append, xl_lt, xl_gt, xl_eq, ↓reduceIte, Nat.reduceLT, Nat.reduceAdd, Nat.reduceLeDiff, x_up_self, x_uu, lt0, ln0, lx0, lt1, ln1, lx1, lt2, ln2, lx2, lt3, ln3, lx3, lt4, ln4, lx4, lt5, ln5, lx5, lt6, ln6, lx6, lt7, ln7, lx7, lt8, ln8, lx8, lt9, ln9, lx9, lt10, ln10, lx10, lt11, ln11, lx11, lt12, ln12, lx12, lt13, ln13, lx13, lt14, ln14, lx14, lt15, ln15, lx15, lt16, ln16, lx16, lt17, ln17, lx17, lt18, ln18, lx18, lt19, ln19, lx19, lt20, ln20, lx20, lt21, ln21, lx21, lt22, ln22, lx22, lt23, ln23, lx23, lt24, ln24, lx24, la0, la1, la2, la3, la4, la5, la6, la7, la8, la9, la10, la11, la12, lb0, lb1, lb2, lb3, lb4, lb5, lb6, lb7, lb8, lb9, lb10, lb11, lb12, lt60, lt400, lt900, ltm1, ltm2, ltm4, ltm10000, lt10000, lt1000000, ltm1000000, lt10000000, lt2000, lt100000, Int.toNat_natCast, i1ne0, i0eq0, Int.reduceLT, Int.reduceLE, Int.reduceToNat, Int.reduceNeg, not_true, not_false_iff, false_imp_iff, true_imp_iff, imp_self, implies_true, Option.isSome_some, Bool.false_eq_true, x_clv h0']
    rw [← e00]
    refine s_takeStep hi hA1.1 hA1.2.1 (fun j hj => nwA_n (nu j hj) hj) kn (fun i j hi' => by have := had i hi'; have := hA1.2.1 j; omega) hR1 (fun _ => ?_) fun q => ?_
    · rw [e00]
      simp only [eX7_run_23, eX7_run_24, eX7_run_27, List.getElem?_cons_zero, List.getElem?_cons_succ, Option.some.injEq, Value.int.injEq, Value.long.injEq, Value.ref.injEq, reduceCtorEq, exists_eq_left', exists_eq_left, exists_and_left, exists_and_right, and_assoc, and_true, true_and, true_or, or_true, x_rfv_ref, x_rfv_null, Prod.mk.injEq, List.set_cons_zero, List.set_cons_succ, List.length_cons, List.length_nil, Value.category, x_nl0, x_nl1, x_nl2, x_nl3, x_nl4, x_nl5, x_nl6, x_nl7, x_nl8, x_nl9, x_nl10, x_nl11, x_nl12, List.map_nil, List.map_cons, List.sum_nil, List.sum_cons, Option.toList_some, Option.toList_none, List.nil_append, List.cons_append, xl_lt, xl_gt, xl_eq, ↓reduceIte, Nat.reduceLT, Nat.reduceAdd, Nat.reduceLeDiff, x_up_self, x_uu, lt0, ln0, lx0, lt1, ln1, lx1, lt2, ln2, lx2, lt3, ln3, lx3, lt4, ln4, lx4, lt5, ln5, lx5, lt6, ln6, lx6, lt7, ln7, lx7, lt8, ln8, lx8, lt9, ln9, lx9, lt10, ln10, lx10, lt11, ln11, lx11, lt12, ln12, lx12, lt13, ln13, lx13, lt14, ln14, lx14, lt15, ln15, lx15, lt16, ln16, lx16, lt17, ln17, lx17, lt18, ln18, lx18, lt19, ln19, lx19, lt20, ln20, lx20, lt21, ln21, lx21, lt22, ln22, lx22, lt23, ln23, lx23, lt24, ln24, lx24, la0, la1, la2, la3, la4, la5, la6, la7, la8, la9, la10, la11, la12, lb0, lb1, lb2, lb3, lb4, lb5, lb6, lb7, lb8, lb9, lb10, lb11, lb12, lt60, lt400, lt900, ltm1, ltm2, ltm4, ltm10000, lt10000, lt1000000, ltm1000000, lt10000000, lt2000, lt100000, Int.toNat_natCast, i1ne0, i0eq0, Int.reduceLT, Int.reduceLE, Int.reduceToNat, Int.reduceNeg, not_true, not_false_iff, false_imp_iff, true_imp_iff, imp_self, implies_true, Option.isSome_some, Bool.false_eq_true]
      rw [eX7_run_9]
      simp only [eX7_run_10, List.getElem?_cons_zero, List.getElem?_cons_succ, Option.some.injEq, Value.int.injEq, Value.long.injEq, Value.ref.injEq, reduceCtorEq, exists_eq_left', exists_eq_left, exists_and_left, exists_and_right, and_assoc, and_true, true_and, true_or, or_true, x_rfv_ref, x_rfv_null, Prod.mk.injEq, List.set_cons_zero, List.set_cons_succ, List.length_cons, List.length_nil, Value.category, x_nl0, x_nl1, x_nl2, x_nl3, x_nl4, x_nl5, x_nl6, x_nl7, x_nl8, x_nl9, x_nl10, x_nl11, x_nl12, List.map_nil, List.map_cons, List.sum_nil, List.sum_cons, Option.toList_some, Option.toList_none, List.nil_append, List.cons_append, xl_lt, xl_gt, xl_eq, ↓reduceIte, Nat.reduceLT, Nat.reduceAdd, Nat.reduceLeDiff, x_up_self, x_uu, lt0, ln0, lx0, lt1, ln1, lx1, lt2, ln2, lx2, lt3, ln3, lx3, lt4, ln4, lx4, lt5, ln5, lx5, lt6, ln6, lx6, lt7, ln7, lx7, lt8, ln8, lx8, lt9, ln9, lx9, lt10, ln10, lx10, lt11, ln11, lx11, lt12, ln12, lx12, lt13, ln13, lx13, lt14, ln14, lx14, lt15, ln15, lx15, lt16, ln16, lx16, lt17, ln17, lx17, lt18, ln18, lx18, lt19, ln19, lx19, lt20, ln20, lx20, lt21, ln21, lx21, lt22, ln22, lx22, lt23, ln23, lx23, lt24, ln24, lx24, la0, la1, la2, la3, la4, la5, la6, la7, la8, la9, la10, la11, la12, lb0, lb1, lb2, lb3, lb4, lb5, lb6, lb7, lb8, lb9, lb10, lb11, lb12, lt60, lt400, lt900, ltm1, ltm2, ltm4, ltm10000, lt10000, lt1000000, ltm1000000, lt10000000, lt2000, lt100000, Int.toNat_natCast, i1ne0, i0eq0, Int.reduceLT, Int.reduceLE, Int.reduceToNat, Int.reduceNeg, not_true, not_false_iff, false_imp_iff, true_imp_iff, imp_self, implies_true, Option.isSome_some, Bool.false_eq_true]
      simp only [eX7_run_30, eX7_run_31, eX7_run_34, eX7_run_35, eX7_run_36, List.getElem?_cons_zero, List.getElem?_cons_succ, Option.some.injEq, Value.int.injEq, Value.long.injEq, Value.ref.injEq, reduceCtorEq, exists_eq_left', exists_eq_left, exists_and_left, exists_and_right, and_assoc, and_true, true_and, true_or, or_true, x_rfv_ref, x_rfv_null, Prod.mk.injEq, List.set_cons_zero, List.set_cons_succ, List.length_cons, List.length_nil, Value.category, x_nl0, x_nl1, x_nl2, x_nl3, x_nl4, x_nl5, x_nl6, x_nl7, x_nl8, x_nl9, x_nl10, x_nl11, x_nl12, List.map_nil, List.map_cons, List.sum_nil, List.sum_cons, Option.toList_some, Option.toList_none, List.nil_append, List.cons_append, xl_lt, xl_gt, xl_eq, ↓reduceIte, Nat.reduceLT, Nat.reduceAdd, Nat.reduceLeDiff, x_up_self, x_uu, lt0, ln0, lx0, lt1, ln1, lx1, lt2, ln2, lx2, lt3, ln3, lx3, lt4, ln4, lx4, lt5, ln5, lx5, lt6, ln6, lx6, lt7, ln7, lx7, lt8, ln8, lx8, lt9, ln9, lx9, lt10, ln10, lx10, lt11, ln11, lx11, lt12, ln12, lx12, lt13, ln13, lx13, lt14, ln14, lx14, lt15, ln15, lx15, lt16, ln16, lx16, lt17, ln17, lx17, lt18, ln18, lx18, lt19, ln19, lx19, lt20, ln20, lx20, lt21, ln21, lx21, lt22, ln22, lx22, lt23, ln23, lx23, lt24, ln24, lx24, la0, la1, la2, la3, la4, la5, la6, la7, la8, la9, la10, la11, la12, lb0, lb1, lb2, lb3, lb4, lb5, lb6, lb7, lb8, lb9, lb10, lb11, lb12, lt60, lt400, lt900, ltm1, ltm2, ltm4, ltm10000, lt10000, lt1000000, ltm1000000, lt10000000, lt2000, lt100000, Int.toNat_natCast, i1ne0, i0eq0, Int.reduceLT, Int.reduceLE, Int.reduceToNat, Int.reduceNeg, not_true, not_false_iff, false_imp_iff, true_imp_iff, imp_self, implies_true, Option.isSome_some, Bool.false_eq_true, h0']
      exact h σ.1 _ _ A hR ha rfl (fun c hc => Or.inl ⟨hc, rfl⟩) frC_rf rfl (Nat.le_refl _) (Nat.le_refl _)
    · have hs' : m_stop S = true := hs
      rw [hs'] at q; cases q
  | succ n ih =>
    intro st S A σ hst ha0 hi ha hBN kn hR hgo hs h
    subst ha0
    have ha' := ha
    obtain ⟨a1, a2, a3, a4⟩ := ha'
    have h60 := hi.2.2.2.2.2.2.1
    have hns : m_stop S = false := hgo 0 (by omega)
    have nu : ∀ j, j < 6 → ¬ us S.1.1 S.2.1.1 S.2.2.2.2.2.2.length (1000 + 6 * S.2.2.2.2.2.2.length + j) := fun j hj => by
      have := hi.1.1
      have := hi.1.2.1
      unfold us
      omega
    have hA1 := nwA_adr0 (b := 1000 + 6 * S.2.2.2.2.2.2.length) (k := 6) ha hBN
    have hu0 : ∀ c, us S.1.1 S.2.1.1 S.2.2.2.2.2.2.length c → nwA A σ.2.1 S.1.1 S.2.1.1 S.2.2.2.2.2.2.length (1000 + 6 * S.2.2.2.2.2.2.length) 6 c = A c := fun c hc => nwA_u hc
    have hA6 : ∀ np', np' = S.2.2.2.2.2.2.length + 1 → adr B (σ.2.1 + 6) (nwA A σ.2.1 S.1.1 S.2.1.1 S.2.2.2.2.2.2.length (1000 + 6 * S.2.2.2.2.2.2.length) 6) S.1.1 S.2.1.1 np' := fun np' hnp => nwA_adr ha hBN fun c => by
      unfold us
      omega
    have hR1 := RC_mv (w' := σ.1) hi hR hu0 fun _ _ => rfl
    have t1 : (nI st).toInt = (st : Int) := nI_toInt (by omega)
    have t2 : (100000 : Int32).toInt = 100000 := by decide
    have h0 := hR.1
    have h0' := h0
    unfold pbc at h0'
    have e00 := hu0 0 (us_le (by decide))
    have nn : nI st + 1 = nI (st + 1) := nI_1 _
    rw [eX7_run_9]
    simp only [eX7_run_10, eX7_run_13, eX7_run_14, eX7_run_16, List.getElem?_cons_zero, List.getElem?_cons_succ, Option.some.injEq, Value.int.injEq, Value.long.injEq, Value.ref.injEq, reduceCtorEq, exists_eq_left', exists_eq_left, exists_and_left, exists_and_right, and_assoc, and_true, true_and, true_or, or_true, x_rfv_ref, x_rfv_null, Prod.mk.injEq, List.set_cons_zero, List.set_cons_succ, List.length_cons, List.length_nil, Value.category, x_nl0, x_nl1, x_nl2, x_nl3, x_nl4, x_nl5, x_nl6, x_nl7, x_nl8, x_nl9, x_nl10, x_nl11, x_nl12, List.map_nil, List.map_cons, List.sum_nil, List.sum_cons, Option.toList_some, Option.toList_none, List.nil_append, List.cons_append, xl_lt, xl_gt, xl_eq, ↓reduceIte, Nat.reduceLT, Nat.reduceAdd, Nat.reduceLeDiff, x_up_self, x_uu, lt0, ln0, lx0, lt1, ln1, lx1, lt2, ln2, lx2, lt3, ln3, lx3, lt4, ln4, lx4, lt5, ln5, lx5, lt6, ln6, lx6, lt7, ln7, lx7, lt8, ln8, lx8, lt9, ln9, lx9, lt10, ln10, lx10, lt11, ln11, lx11, lt12, ln12, lx12, lt13, ln13, lx13, lt14, ln14, lx14, lt15, ln15, lx15, lt16, ln16, lx16, lt17, ln17, lx17, lt18, ln18, lx18, lt19, ln19, lx19, lt20, ln20, lx20, lt21, ln21, lx21, lt22, ln22, lx22, lt23, ln23, lx23, lt24, ln24, lx24, la0, la1, la2, la3, la4, la5, la6, la7, la8, la9, la10, la11, la12, lb0, lb1, lb2, lb3, lb4, lb5, lb6, lb7, lb8, lb9, lb10, lb11, lb12, lt60, lt400, lt900, ltm1, ltm2, ltm4, ltm10000, lt10000, lt1000000, ltm1000000, lt10000000, lt2000, lt100000, Int.toNat_natCast, i1ne0, i0eq0, Int.reduceLT, Int.reduceLE, Int.reduceToNat, Int.reduceNeg, not_true, not_false_iff, false_imp_iff, true_imp_iff, imp_self, implies_true, Option.isSome_some, Bool.false_eq_true, t1, t2]
    rw [if_pos (by omega)]
    simp only [eX7_run_19, eX7_run_20, List.getElem?_cons_zero, List.getElem?_cons_succ, Option.some.injEq, Value.int.injEq, Value.long.injEq, Value.ref.injEq, reduceCtorEq, exists_eq_left', exists_eq_left, exists_and_left, exists_and_right, and_assoc, and_true, true_and, true_or, or_true, x_rfv_ref, x_rfv_null, Prod.mk.injEq, List.set_cons_zero, List.set_cons_succ, List.length_cons, List.length_nil, Value.category, x_nl0, x_nl1, x_nl2, x_nl3, x_nl4, x_nl5, x_nl6, x_nl7, x_nl8, x_nl9, x_nl10, x_nl11, x_nl12, List.map_nil, List.map_cons, List.sum_nil, List.sum_cons, Option.toList_some, Option.toList_none, List.nil_append, List.cons_append, xl_lt, xl_gt, xl_eq, ↓reduceIte, Nat.reduceLT, Nat.reduceAdd, Nat.reduceLeDiff, x_up_self, x_uu, lt0, ln0, lx0, lt1, ln1, lx1, lt2, ln2, lx2, lt3, ln3, lx3, lt4, ln4, lx4, lt5, ln5, lx5, lt6, ln6, lx6, lt7, ln7, lx7, lt8, ln8, lx8, lt9, ln9, lx9, lt10, ln10, lx10, lt11, ln11, lx11, lt12, ln12, lx12, lt13, ln13, lx13, lt14, ln14, lx14, lt15, ln15, lx15, lt16, ln16, lx16, lt17, ln17, lx17, lt18, ln18, lx18, lt19, ln19, lx19, lt20, ln20, lx20, lt21, ln21, lx21, lt22, ln22, lx22, lt23, ln23, lx23, lt24, ln24, lx24, la0, la1, la2, la3, la4, la5, la6, la7, la8, la9, la10, la11, la12, lb0, lb1, lb2, lb3, lb4, lb5, lb6, lb7, lb8, lb9, lb10, lb11, lb12, lt60, lt400, lt900, ltm1, ltm2, ltm4, ltm10000, lt10000, lt1000000, ltm1000000, lt10000000, lt2000, lt100000, Int.toNat_natCast, i1ne0, i0eq0, Int.reduceLT, Int.reduceLE, Int.reduceToNat, Int.reduceNeg, not_true, not_false_iff, false_imp_iff, true_imp_iff, imp_self, implies_true, Option.isSome_some, Bool.false_eq_true, x_clv h0']
    rw [← e00]
    generalize hAA : nwA A σ.2.1 S.1.1 S.2.1.1 S.2.2.2.2.2.2.length (1000 + 6 * S.2.2.2.2.2.2.length) 6 = A1 at *
    refine s_takeStep hi hA1.1 hA1.2.1 (fun j hj => by rw [← hAA]; exact nwA_n (nu j hj) hj) kn (fun i j hi' => by have := had i hi'; have := hA1.2.1 j; omega) hR1 (fun q => by rw [hns] at q; cases q) fun _ w' N' sl' hw hf hsz => ?_
    rw [e00]
    simp only [eX7_run_23, eX7_run_24, eX7_run_27, List.getElem?_cons_zero, List.getElem?_cons_succ, Option.some.injEq, Value.int.injEq, Value.long.injEq, Value.ref.injEq, reduceCtorEq, exists_eq_left', exists_eq_left, exists_and_left, exists_and_right, and_assoc, and_true, true_and, true_or, or_true, x_rfv_ref, x_rfv_null, Prod.mk.injEq, List.set_cons_zero, List.set_cons_succ, List.length_cons, List.length_nil, Value.category, x_nl0, x_nl1, x_nl2, x_nl3, x_nl4, x_nl5, x_nl6, x_nl7, x_nl8, x_nl9, x_nl10, x_nl11, x_nl12, List.map_nil, List.map_cons, List.sum_nil, List.sum_cons, Option.toList_some, Option.toList_none, List.nil_append, List.cons_append, xl_lt, xl_gt, xl_eq, ↓reduceIte, Nat.reduceLT, Nat.reduceAdd, Nat.reduceLeDiff, x_up_self, x_uu, lt0, ln0, lx0, lt1, ln1, lx1, lt2, ln2, lx2, lt3, ln3, lx3, lt4, ln4, lx4, lt5, ln5, lx5, lt6, ln6, lx6, lt7, ln7, lx7, lt8, ln8, lx8, lt9, ln9, lx9, lt10, ln10, lx10, lt11, ln11, lx11, lt12, ln12, lx12, lt13, ln13, lx13, lt14, ln14, lx14, lt15, ln15, lx15, lt16, ln16, lx16, lt17, ln17, lx17, lt18, ln18, lx18, lt19, ln19, lx19, lt20, ln20, lx20, lt21, ln21, lx21, lt22, ln22, lx22, lt23, ln23, lx23, lt24, ln24, lx24, la0, la1, la2, la3, la4, la5, la6, la7, la8, la9, la10, la11, la12, lb0, lb1, lb2, lb3, lb4, lb5, lb6, lb7, lb8, lb9, lb10, lb11, lb12, lt60, lt400, lt900, ltm1, ltm2, ltm4, ltm10000, lt10000, lt1000000, ltm1000000, lt10000000, lt2000, lt100000, Int.toNat_natCast, i1ne0, i0eq0, Int.reduceLT, Int.reduceLE, Int.reduceToNat, Int.reduceNeg, not_true, not_false_iff, false_imp_iff, true_imp_iff, imp_self, implies_true, Option.isSome_some, Bool.false_eq_true, nn]
    obtain ⟨s1, s2⟩ := step_IC S
    have hNN : σ.2.1 ≤ N' := by omega
    refine ih (st + 1) (m_step S) A1 (w', N', sl') (by omega) e00 (iv_step hi hns) ?_ (by dsimp only; omega) ?_ hw (fun k hk => hgo (k + 1) (by omega)) hs fun w'' N'' sl'' A'' hw'' ha'' ha0'' hold hf'' hN'' hsl'' hle => ?_
    · show adr B N' A1 (m_step S).1.1 (m_step S).2.1.1 (m_step S).2.2.2.2.2.2.length
      rw [s1, s2]
      rcases hsz with ⟨z1, -, z3⟩ | ⟨z1, -, z3⟩
      · rw [z1, z3]; exact hA1
      · rw [z1]; exact hA6 _ z3
    · exact knd_S kn had hA1.2.1 hBN hf
    · dsimp only at hN'' hsl''
      refine h w'' N'' sl'' A'' hw'' ha'' ha0'' (fun c hc => ?_) (frS_step (fun c hc => hu0 c hc) hA1 hNN hf hf'') ?_ ?_ ?_
      · rcases hold c hc with ⟨z1, z2⟩ | z
        · by_cases hu : us S.1.1 S.2.1.1 S.2.2.2.2.2.2.length c
          · exact Or.inl ⟨hu, z2.trans (hu0 c hu)⟩
          · have := hA1.2.2.2 c hu
            exact Or.inr (by omega)
        · dsimp only at z
          exact Or.inr (by omega)
      · show N'' + _ = _ + 6 * (m_iter n (m_step S)).2.2.2.2.2.2.length
        omega
      · show sl'' + _ ≤ _ + 822 * (m_iter n (m_step S)).2.2.2.2.2.2.length
        omega
      · show _ ≤ (m_iter n (m_step S)).2.2.2.2.2.2.length
        omega
theorem s_runC {B : Nat} {ad A : Nat → Nat} {S : MS} {n : Nat} {σ : xW} {K : xK} (had : ∀ i, i < 6 → ad i < B) (hn : n < 100000) (hi : iv S) (ha : adS B σ.2.1 A S) (hBN : B ≤ σ.2.1) (kn : knd σ.1 ad) (hR : RC σ.1 ad A S) (hgo : ∀ k, k < n → m_stop (m_iter k S) = false) (hs : m_stop (m_iter n S) = true) (h : ∀ w' N' sl' A', RC w' ad A' (m_iter n S) → adS B N' A' (m_iter n S) → A' 0 = A 0 → (∀ c, us (m_iter n S).1.1 (m_iter n S).2.1.1 (m_iter n S).2.2.2.2.2.2.length c → (us S.1.1 S.2.1.1 S.2.2.2.2.2.2.length c ∧ A' c = A c) ∨ σ.2.1 ≤ A' c) → frS A S σ.2.1 σ.1 w' → N' + 6 * S.2.2.2.2.2.2.length = σ.2.1 + 6 * (m_iter n S).2.2.2.2.2.2.length → sl' + 822 * S.2.2.2.2.2.2.length ≤ σ.2.2 + 822 * (m_iter n S).2.2.2.2.2.2.length → S.2.2.2.2.2.2.length ≤ (m_iter n S).2.2.2.2.2.2.length → K (some (.int (nI (m_iter n S).2.2.2.2.2.2.length - nI S.2.2.2.2.2.2.length))) (w', N', sl')) : x_cl (eX7_run B ad) [.ref (A 0)] σ K := by
  have h0 := hR.1
  unfold pbc at h0
  refine x_ev_of (by simp [x_sl, Value.category]) ?_
  show wX7_run B ad K 0 [.ref (A 0), .retAddr 0, .retAddr 0, .retAddr 0] [] σ
  simp only [eX7_run_0, eX7_run_1, eX7_run_4, eX7_run_5, eX7_run_6, eX7_run_7, eX7_run_8, List.getElem?_cons_zero, List.getElem?_cons_succ, Option.some.injEq, Value.int.injEq, Value.long.injEq, Value.ref.injEq, reduceCtorEq, exists_eq_left', exists_eq_left, exists_and_left, exists_and_right, and_assoc, and_true, true_and, true_or, or_true, x_rfv_ref, x_rfv_null, Prod.mk.injEq, List.set_cons_zero, List.set_cons_succ, List.length_cons, List.length_nil, Value.category, x_nl0, x_nl1, x_nl2, x_nl3, x_nl4, x_nl5, x_nl6, x_nl7, x_nl8, x_nl9, x_nl10, x_nl11, x_nl12, List.map_nil, List.map_cons, List.sum_nil, List.sum_cons, Option.toList_some, Option.toList_none, List.nil_append, List.cons_append, xl_lt, xl_gt, xl_eq, ↓reduceIte, Nat.reduceLT, Nat.reduceAdd, Nat.reduceLeDiff, x_up_self, x_uu, lt0, ln0, lx0, lt1, ln1, lx1, lt2, ln2, lx2, lt3, ln3, lx3, lt4, ln4, lx4, lt5, ln5, lx5, lt6, ln6, lx6, lt7, ln7, lx7, lt8, ln8, lx8, lt9, ln9, lx9, lt10, ln10, lx10, lt11, ln11, lx11, lt12, ln12, lx12, lt13, ln13, lx13, lt14, ln14, lx14, lt15, ln15, lx15, lt16, ln16, lx16, lt17, ln17, lx17, lt18, ln18, lx18, lt19, ln19, lx19, lt20, ln20, lx20, lt21, ln21, lx21, lt22, ln22, lx22, lt23, ln23, lx23, lt24, ln24, lx24, la0, la1, la2, la3, la4, la5, la6, la7, la8, la9, la10, la11, la12, lb0, lb1, lb2, lb3, lb4, lb5, lb6, lb7, lb8, lb9, lb10, lb11, lb12, lt60, lt400, lt900, ltm1, ltm2, ltm4, ltm10000, lt10000, lt1000000, ltm1000000, lt10000000, lt2000, lt100000, Int.toNat_natCast, i1ne0, i0eq0, Int.reduceLT, Int.reduceLE, Int.reduceToNat, Int.reduceNeg, not_true, not_false_iff, false_imp_iff, true_imp_iff, imp_self, implies_true, Option.isSome_some, Bool.false_eq_true, h0]
  exact cr_l had n 0 S A σ (by omega) rfl hi ha hBN kn hR hgo hs h
