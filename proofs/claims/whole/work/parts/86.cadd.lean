/-! THE CLASS: new items -/
theorem iv_len2 {S : MS} (h : iv S) : S.2.2.2.2.1.1.length + S.2.2.2.1.1.length ≤ S.1.1 := by
  have h1 := nd_len S.1.1 (m_all S) (fun i hi => (h.2.2.2.1.1 i hi).1) (iv_u h)
  unfold m_all at h1
  simp at h1
  exact h1
set_option maxRecDepth 20000 in
theorem s_addToLine {B : Nat} {ad A : Nat → Nat} {t : It} {S : MS} {σ : xW} {K : xK} (hi : iv S) (hA : ainj A) (hB : ∀ c, B ≤ A c) (hn : S.1.1 < 400) (ht : itok S.2.1.1 t) (hR : RC σ.1 ad A S) (hc : σ.1 (A (100 + S.1.1)) = some (icell ad A S.1.1 t (i_lf t) 0 0 0)) (h : ∀ w', RC w' ad A (m_add S t) → (∀ q, q ≠ A 0 → q ≠ A 1 → q ≠ A 4 → q ≠ A 5 → w' q = σ.1 q) → K (some (.int (nI S.1.1))) (w', σ.2)) : x_cl (eX7_addToLine B ad) [.ref (A 0), .ref (A (100 + S.1.1))] σ K := by
  have hlen := iv_len2 hi
  obtain ⟨g0, ⟨V, v1, v2⟩, gc, gp, ⟨L, hn0, gl⟩, gd, gI, gC, gP⟩ := hR
  have g0' := g0
  unfold pbc at g0'
  have b0 := hB 0
  have hix : (x_ix (nI S.1.1) V).isSome := apre_some v2 hn (by decide)
  have nn : nI S.1.1 + 1 = nI (S.1.1 + 1) := nI_1 _
  have u01 : ∀ (w : xM) e, x_up w (A 1) e (A 0) = w (A 0) := fun w e => x_up_ne _ _ (ainj_ne hA (by decide))
  have hc' := hc
  unfold icell at hc'
  refine x_ev_of (by simp [x_sl, Value.category]) ?_
  show wX7_addToLine B ad K 0 [.ref (A 0), .ref (A (100 + S.1.1))] [] σ
  simp only [eX7_addToLine_0, eX7_addToLine_1, eX7_addToLine_4, eX7_addToLine_5, eX7_addToLine_8, eX7_addToLine_9, eX7_addToLine_10, eX7_addToLine_11, eX7_addToLine_12, eX7_addToLine_15, eX7_addToLine_16, eX7_addToLine_17, eX7_addToLine_20, eX7_addToLine_21, eX7_addToLine_24, List.getElem?_cons_zero, List.getElem?_cons_succ, Option.some.injEq, Value.int.injEq, Value.long.injEq, Value.ref.injEq, reduceCtorEq, exists_eq_left', exists_eq_left, exists_and_left, exists_and_right, and_assoc, and_true, true_and, true_or, or_true, x_rfv_ref, x_rfv_null, Prod.mk.injEq, List.set_cons_zero, List.set_cons_succ, List.length_cons, List.length_nil, Value.category, x_nl0, x_nl1, x_nl2, x_nl3, x_nl4, x_nl5, x_nl6, x_nl7, x_nl8, x_nl9, x_nl10, x_nl11, x_nl12, List.map_nil, List.map_cons, List.sum_nil, List.sum_cons, Option.toList_some, Option.toList_none, List.nil_append, List.cons_append, xl_lt, xl_gt, xl_eq, ↓reduceIte, Nat.reduceLT, Nat.reduceAdd, Nat.reduceLeDiff, x_up_self, x_uu, lt0, ln0, lx0, lt1, ln1, lx1, lt2, ln2, lx2, lt3, ln3, lx3, lt4, ln4, lx4, lt5, ln5, lx5, lt6, ln6, lx6, lt7, ln7, lx7, lt8, ln8, lx8, lt9, ln9, lx9, lt10, ln10, lx10, lt11, ln11, lx11, lt12, ln12, lx12, lt13, ln13, lx13, lt14, ln14, lx14, lt15, ln15, lx15, lt16, ln16, lx16, lt17, ln17, lx17, lt18, ln18, lx18, lt19, ln19, lx19, lt20, ln20, lx20, lt21, ln21, lx21, lt22, ln22, lx22, lt23, ln23, lx23, lt24, ln24, lx24, la0, la1, la2, la3, la4, la5, la6, la7, la8, la9, la10, la11, la12, lb0, lb1, lb2, lb3, lb4, lb5, lb6, lb7, lb8, lb9, lb10, lb11, lb12, lt60, lt400, lt900, ltm1, ltm2, ltm4, ltm10000, lt10000, lt1000000, ltm1000000, lt10000000, lt2000, lt100000, Int.toNat_natCast, i1ne0, i0eq0, Int.reduceLT, Int.reduceLE, Int.reduceToNat, Int.reduceNeg, not_true, not_false_iff, false_imp_iff, true_imp_iff, imp_self, implies_true, Option.isSome_some, Bool.false_eq_true, g0', v1, hc', hix, hB 1, b0, u01, nn, nI_nat (show S.1.1 < 2 ^ 31 by omega)]
  have gen : ∀ w1 : xM, w1 (A 0) = some (pbc A (m_add S t)) → w1 (A 1) = some (103, V.set S.1.1 (.ref (A (100 + S.1.1)))) → (∀ q, q ≠ A 0 → q ≠ A 1 → w1 q = σ.1 q) → wX7_addToLine B ad K 25 [.ref (A 0), .ref (A (100 + S.1.1))] [.ref (A (100 + S.1.1)), .ref (A 4)] (w1, σ.2) := by
    intro w1 k0 k1 kf
    have kA : ∀ c, c ≠ 0 → c ≠ 1 → w1 (A c) = σ.1 (A c) := fun c c0 c1 => kf _ (ainj_ne hA c0) (ainj_ne hA c1)
    obtain ⟨l1, l2, l3⟩ := gl
    have hl1 : lnc w1 (A 4) (A 5) L hn0 (S.2.2.2.1.1.map fun i => A (100 + i)) := ⟨(kA 4 (by decide) (by decide)).trans l1, (kA 5 (by decide) (by decide)).trans l2, l3⟩
    have kc : w1 (A (100 + S.1.1)) = some (icell ad A S.1.1 t (i_lf t) 0 0 0) := (kA _ (by omega) (by omega)).trans hc
    have kc' := kc
    unfold icell at kc'
    simp only [eX7_addToLine_25, List.getElem?_cons_zero, List.getElem?_cons_succ, Option.some.injEq, Value.int.injEq, Value.long.injEq, Value.ref.injEq, reduceCtorEq, exists_eq_left', exists_eq_left, exists_and_left, exists_and_right, and_assoc, and_true, true_and, true_or, or_true, x_rfv_ref, x_rfv_null, Prod.mk.injEq, List.set_cons_zero, List.set_cons_succ, List.length_cons, List.length_nil, Value.category, x_nl0, x_nl1, x_nl2, x_nl3, x_nl4, x_nl5, x_nl6, x_nl7, x_nl8, x_nl9, x_nl10, x_nl11, x_nl12, List.map_nil, List.map_cons, List.sum_nil, List.sum_cons, Option.toList_some, Option.toList_none, List.nil_append, List.cons_append, xl_lt, xl_gt, xl_eq, ↓reduceIte, Nat.reduceLT, Nat.reduceAdd, Nat.reduceLeDiff, x_up_self, x_uu, lt0, ln0, lx0, lt1, ln1, lx1, lt2, ln2, lx2, lt3, ln3, lx3, lt4, ln4, lx4, lt5, ln5, lx5, lt6, ln6, lx6, lt7, ln7, lx7, lt8, ln8, lx8, lt9, ln9, lx9, lt10, ln10, lx10, lt11, ln11, lx11, lt12, ln12, lx12, lt13, ln13, lx13, lt14, ln14, lx14, lt15, ln15, lx15, lt16, ln16, lx16, lt17, ln17, lx17, lt18, ln18, lx18, lt19, ln19, lx19, lt20, ln20, lx20, lt21, ln21, lx21, lt22, ln22, lx22, lt23, ln23, lx23, lt24, ln24, lx24, la0, la1, la2, la3, la4, la5, la6, la7, la8, la9, la10, la11, la12, lb0, lb1, lb2, lb3, lb4, lb5, lb6, lb7, lb8, lb9, lb10, lb11, lb12, lt60, lt400, lt900, ltm1, ltm2, ltm4, ltm10000, lt10000, lt1000000, ltm1000000, lt10000000, lt2000, lt100000, Int.toNat_natCast, i1ne0, i0eq0, Int.reduceLT, Int.reduceLE, Int.reduceToNat, Int.reduceNeg, not_true, not_false_iff, false_imp_iff, true_imp_iff, imp_self, implies_true, Option.isSome_some, Bool.false_eq_true, x_clvp hl1.1]
    refine s_addLast (σ := (w1, σ.2)) hl1 kc' (by rw [List.length_map]; omega) ⟨hB 4, hB 5⟩ fun w' ⟨V', hl'⟩ hf => ?_
    have fA : ∀ c, c ≠ 0 → c ≠ 1 → c ≠ 4 → c ≠ 5 → w' (A c) = σ.1 (A c) := fun c c0 c1 c4 c5 => (hf _ (ainj_ne hA c4) (ainj_ne hA c5)).trans (kA c c0 c1)
    have f0 : w' (A 0) = some (pbc A (m_add S t)) := (hf _ (ainj_ne hA (by decide)) (ainj_ne hA (by decide))).trans k0
    have f1 : w' (A 1) = some (103, V.set S.1.1 (.ref (A (100 + S.1.1)))) := (hf _ (ainj_ne hA (by decide)) (ainj_ne hA (by decide))).trans k1
    have fc : w' (A (100 + S.1.1)) = some (icell ad A S.1.1 t (i_lf t) 0 0 0) := (fA _ (by omega) (by omega) (by omega) (by omega)).trans hc
    have fc' := fc
    unfold icell at fc'
    simp only [eX7_addToLine_0, eX7_addToLine_1, eX7_addToLine_4, eX7_addToLine_5, eX7_addToLine_8, eX7_addToLine_9, eX7_addToLine_10, eX7_addToLine_11, eX7_addToLine_12, eX7_addToLine_15, eX7_addToLine_16, eX7_addToLine_17, eX7_addToLine_20, eX7_addToLine_21, eX7_addToLine_24, eX7_addToLine_25, eX7_addToLine_28, eX7_addToLine_29, eX7_addToLine_32, List.getElem?_cons_zero, List.getElem?_cons_succ, Option.some.injEq, Value.int.injEq, Value.long.injEq, Value.ref.injEq, reduceCtorEq, exists_eq_left', exists_eq_left, exists_and_left, exists_and_right, and_assoc, and_true, true_and, true_or, or_true, x_rfv_ref, x_rfv_null, Prod.mk.injEq, List.set_cons_zero, List.set_cons_succ, List.length_cons, List.length_nil, Value.category, x_nl0, x_nl1, x_nl2, x_nl3, x_nl4, x_nl5, x_nl6, x_nl7, x_nl8, x_nl9, x_nl10, x_nl11, x_nl12, List.map_nil, List.map_cons, List.sum_nil, List.sum_cons, Option.toList_some, Option.toList_none, List.nil_append, List.cons_append, xl_lt, xl_gt, xl_eq, ↓reduceIte, Nat.reduceLT, Nat.reduceAdd, Nat.reduceLeDiff, x_up_self, x_uu, lt0, ln0, lx0, lt1, ln1, lx1, lt2, ln2, lx2, lt3, ln3, lx3, lt4, ln4, lx4, lt5, ln5, lx5, lt6, ln6, lx6, lt7, ln7, lx7, lt8, ln8, lx8, lt9, ln9, lx9, lt10, ln10, lx10, lt11, ln11, lx11, lt12, ln12, lx12, lt13, ln13, lx13, lt14, ln14, lx14, lt15, ln15, lx15, lt16, ln16, lx16, lt17, ln17, lx17, lt18, ln18, lx18, lt19, ln19, lx19, lt20, ln20, lx20, lt21, ln21, lx21, lt22, ln22, lx22, lt23, ln23, lx23, lt24, ln24, lx24, la0, la1, la2, la3, la4, la5, la6, la7, la8, la9, la10, la11, la12, lb0, lb1, lb2, lb3, lb4, lb5, lb6, lb7, lb8, lb9, lb10, lb11, lb12, lt60, lt400, lt900, ltm1, ltm2, ltm4, ltm10000, lt10000, lt1000000, ltm1000000, lt10000000, lt2000, lt100000, Int.toNat_natCast, i1ne0, i0eq0, Int.reduceLT, Int.reduceLE, Int.reduceToNat, Int.reduceNeg, not_true, not_false_iff, false_imp_iff, true_imp_iff, imp_self, implies_true, Option.isSome_some, Bool.false_eq_true, fc']
    have hm : m_add S t = ((S.1.1 + 1, fun i => if i = S.1.1 then t else S.1.2 i), S.2.1, S.2.2.1, (S.2.2.2.1.1 ++ [S.1.1], (fun i => if i = S.1.1 then i_lf t else S.2.2.2.1.2.1 i), S.2.2.2.1.2.2), S.2.2.2.2) := by
      unfold m_add; rw [if_neg (by omega)]
    refine h w' ?_ fun q q0 q1 q4 q5 => (hf q q4 q5).trans (kf q q0 q1)
    rw [hm] at f0 ⊢
    refine ⟨f0, aw_push (v := .ref (A (100 + S.1.1))) v2 hn f1 (fun _ _ => rfl) rfl, RCc_mv gc (fA 2 (by omega) (by omega) (by omega) (by omega)) fun _ _ => rfl, RCp_mv gp (fA 3 (by omega) (by omega) (by omega) (by omega)) fun _ _ => rfl, ⟨V', hn0, ?_⟩, RCd_mv gd (fun c h1 h2 => fA c (by omega) (by omega) (by omega) (by omega)) (fun _ _ _ => rfl) fun _ _ => rfl, fun i hi' => ?_, RCC_mv gC fun k _ => fA _ (by omega) (by omega) (by omega) (by omega), RCP_mv gP (fun c h1 h2 => fA c (by omega) (by omega) (by omega) (by omega)) fun _ _ _ => rfl⟩
    · show lnc w' (A 4) (A 5) V' hn0 ((S.2.2.2.1.1 ++ [S.1.1]).map fun i => A (100 + i))
      rw [List.map_append]
      exact hl'
    · have hi2 : i < S.1.1 + 1 := hi'
      show ∃ pl sd, w' (A (100 + i)) = some (icell ad A i (if i = S.1.1 then t else S.1.2 i) (if i = S.1.1 then i_lf t else S.2.2.2.1.2.1 i) (bz (S.2.2.2.1.2.2 i)) pl sd)
      by_cases q : i = S.1.1
      · refine ⟨0, 0, ?_⟩
        rw [if_pos q, if_pos q, (hi.2.2.2.1.1 i (by omega)).2.2, q]
        exact fc
      · obtain ⟨pl, sd, gi⟩ := gI i (by omega)
        refine ⟨pl, sd, ?_⟩
        rw [if_neg q, if_neg q, fA _ (by omega) (by omega) (by omega) (by omega)]
        exact gi
  have hm0 : pbc A (m_add S t) = (7, [.ref (A 1), .int (nI (S.1.1 + 1)), .ref (A 2), .int (nI S.2.1.1), .ref (A 3), .int (nI S.2.2.2.2.2.2.length), .ref (A 4), .ref (A 6), .int S.2.2.1.1, .int S.2.2.1.2.1, .int S.2.2.1.2.2]) := by
    unfold m_add; rw [if_neg (by omega)]; rfl
  refine gen _ ?_ ?_ fun q q0 q1 => ?_
  · rw [x_up_self, hm0]
  · rw [x_upA hA, if_neg (by decide), x_up_self]
  · rw [x_up_ne _ _ q0, x_up_ne _ _ q1]
theorem add_fr {A : Nat → Nat} {S : MS} {N : Nat} {w w1 w' : xM} (hN : A (100 + S.1.1) = N) (h1 : ∀ q, q ≠ N → w1 q = w q) (h2 : ∀ q, q ≠ A 0 → q ≠ A 1 → q ≠ A 4 → q ≠ A 5 → w' q = w1 q) : frS A S N w w' := fun q hq hc => by
  rw [h2 q (hc 0 (us_le (by decide))) (hc 1 (us_le (by decide))) (hc 4 (us_le (by decide))) (hc 5 (us_le (by decide))), h1 q (by omega)]
/-- the call's last part, all items alike -/
theorem add_end {B : Nat} {ad A : Nat → Nat} {t : It} {S : MS} {σ : xW} {K : xK} {e : xE} (hi : iv S) (hA : ainj A) (hB : ∀ c, B ≤ A c) (hn : S.1.1 < 400) (ht : itok S.2.1.1 t) (hN : A (100 + S.1.1) = σ.2.1) (hR : RC σ.1 ad A S) (he : e = icell ad A S.1.1 t (i_lf t) 0 0 0) (h : ∀ w', RC w' ad A (m_add S t) → frS A S σ.2.1 σ.1 w' → K (some (.int (nI S.1.1))) (w', σ.2.1 + 1, σ.2.2 + 13)) : x_cl (x_v 7 (eX7_addToLine B ad)) [.ref (A 0), .ref σ.2.1] (x_up σ.1 σ.2.1 e, σ.2.1 + 1, σ.2.2 + 13) K := by
  have nu : ¬ us S.1.1 S.2.1.1 S.2.2.2.2.2.2.length (100 + S.1.1) := by
    have := hi.1.1
    have := hi.1.2.1
    have := hi.2.2.2.2.2.2.1
    unfold us
    omega
  have h0 : x_up σ.1 σ.2.1 e (A 0) = some (pbc A S) := by
    rw [← hN, x_upA hA, if_neg (by omega)]; exact hR.1
  have h0' := h0
  unfold pbc at h0'
  rw [x_clvp h0', ← hN]
  have hR1 := RC_new (e := e) hA hi nu hR
  refine s_addToLine (t := t) (σ := (x_up σ.1 (A (100 + S.1.1)) e, A (100 + S.1.1) + 1, σ.2.2 + 13)) hi hA hB hn ht hR1 ?_ fun w' hw hf => ?_
  · rw [← he]; exact x_up_self _ _ _
  · have := h w' hw (add_fr hN (w1 := x_up σ.1 (A (100 + S.1.1)) e) (fun q hq => by rw [x_up_ne _ _ (by rw [hN]; exact hq)]) hf)
    rw [← hN] at this
    exact this
