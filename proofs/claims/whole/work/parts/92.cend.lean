/-! THE CLASS: endPage -/
theorem b_eq {lf : Nat → Int32} : ∀ Q : List (Nat × Int32 × Bool), (∀ i, (Q.map (fun q => q.1)).count i ≤ 1) → (∀ q, q ∈ Q → (q.2.2 = true ↔ 0 < (lf q.1 - q.2.1).toInt)) → b_hd lf Q = (Q.filter (fun q => q.2.2)).map (fun q => q.1) ∧ ∀ i, b_lf lf Q i = m_lf lf Q i
  | [], _, _ => ⟨rfl, fun _ => rfl⟩
  | q :: r, h1, h2 => by
    have hr : ∀ i, (r.map (fun q => q.1)).count i ≤ 1 := fun i => by
      have := h1 i
      rw [List.map_cons, List.count_cons] at this
      omega
    obtain ⟨i1, i2⟩ := b_eq r hr fun x hx => h2 x (List.mem_cons_of_mem _ hx)
    have e0 : b_lf lf r q.1 = lf q.1 := by
      rw [i2]
      unfold m_lf
      rcases q_one r q.1 (hr q.1) with ⟨-, z, -⟩ | ⟨x, -, -, z, -⟩
      · rw [z]
      · have := h1 q.1
        rw [List.map_cons, List.count_cons, if_pos (by simp)] at this
        omega
    have h2q := h2 q List.mem_cons_self
    refine ⟨?_, fun i => ?_⟩
    · unfold b_hd
      rw [e0, i1, List.filter_cons]
      cases hq : q.2.2 with
      | true => rw [if_pos (h2q.mp hq), if_pos rfl, List.map_cons]
      | false =>
        rw [if_neg (fun z => by rw [h2q.mpr z] at hq; cases hq), if_neg (by simp)]
    · unfold b_lf ulf m_lf
      rw [List.find?_cons]
      by_cases z : i = q.1
      · rw [if_pos z, e0, z]
        simp
      · rw [if_neg z, show (q.1 == i) = false by simp; exact fun y => z y.symm, i2]
        rfl
theorem iv_over {S : MS} (hi : iv S) (q : Nat × Int32 × Bool) (hq : q ∈ m_Q S) : q.2.2 = true ↔ 0 < (S.2.2.2.1.2.1 q.1 - q.2.1).toInt := by
  obtain ⟨l1, l2, l3⟩ := hi.2.2.1
  have hp := l3 q (Q_mem hq)
  by_cases k : (S.1.2 q.1).1 = 4
  · have h1 := hp.2 k
    have h2 := l2 q.1 k
    have h3 := ((hi.1.2.2.1 q.1).2.2.2.2.2 k).2.2.1
    rw [i32_sub (by omega), h1.2.2]
    omega
  · rw [(hp.1 k).2, (hp.1 k).1, l1 q.1 k]
    decide
theorem pbot_last {P : List PG} {np : Nat} (h : P.length = np + 1) : pg_bot P = (pg_at P np).2.2.2.2.2.2 := by
  unfold pg_bot pg_at
  rw [List.getLast?_eq_getElem?, h, List.getD_eq_getElem?_getD, Nat.add_sub_cancel, List.getElem?_eq_getElem (by omega)]
  rfl
theorem pat_ap {P : List PG} {g : PG} {p : Nat} (h : p < P.length) : pg_at (P ++ [g]) p = pg_at P p := by
  unfold pg_at
  rw [List.getD_eq_getElem?_getD, List.getD_eq_getElem?_getD, List.getElem?_append_left h]
theorem pat_al {P : List PG} {g : PG} : pg_at (P ++ [g]) P.length = g := by
  unfold pg_at
  rw [List.getD_eq_getElem?_getD, List.getElem?_append_right (Nat.le_refl _), Nat.sub_self]
  rfl
set_option maxRecDepth 20000 in
set_option maxHeartbeats 2000000 in
theorem s_endPage {B : Nat} {ad A : Nat → Nat} {S : MS} {σ : xW} {K : xK} (hi : iv S) (hA : ainj A) (hB : ∀ c, B ≤ A c) (hN : ∀ j, j < 6 → A (1000 + 6 * S.2.2.2.2.2.2.length + j) = σ.2.1 + j) (kn : knd σ.1 ad) (kA : ∀ i j, i < 6 → ad i ≠ A j) (hne : S.2.2.2.1.1 ≠ []) (hbk : S.2.2.2.2.2.1.1 = true) (hp60 : S.2.2.2.2.2.2.length < 60) (hR : RC σ.1 ad A S) (h : ∀ w', RC w' ad A (m_end S) → frS A S σ.2.1 σ.1 w' → K none (w', σ.2.1 + 6, σ.2.2 + 22 + S.2.2.2.2.2.1.2.1 + S.2.2.2.2.2.1.2.1)) : x_cl (eX7_endPage B ad) [.ref (A 0)] σ K := by
  have hlen := iv_len hi
  have hni := hi.1.1
  have hbs := (hi.2.2.2.2.2.1 hbk).1
  have g0 := hR.1
  have h0 := g0
  unfold pbc at h0
  obtain ⟨-, gi, gc, gp, gl, ⟨VI, VP, co, bs, bp, bst, gd, d2, d3, -, d5⟩, gI, gC, gP⟩ := hR
  obtain ⟨r1, r2, r3, r4⟩ := d5 hbk
  subst r1 r2 r3 r4
  obtain ⟨P5, p5a, p5b⟩ := gp
  have hN0 : A (1000 + 6 * S.2.2.2.2.2.2.length) = σ.2.1 := hN 0 (by decide)
  have hb0 : B ≤ σ.2.1 := by rw [← hN0]; exact hB _
  generalize hbb : 1000 + 6 * S.2.2.2.2.2.2.length = b at *
  have hb1000 : 1000 ≤ b := by omega
  refine x_ev_of (by simp [x_sl, Value.category]) ?_
  show wX7_endPage B ad K 0 [.ref (A 0), .retAddr 0] [] σ
  simp only [eX7_endPage_0, eX7_endPage_1, eX7_endPage_2, eX7_endPage_5, eX7_endPage_6, eX7_endPage_7, List.getElem?_cons_zero, List.getElem?_cons_succ, Option.some.injEq, Value.int.injEq, Value.long.injEq, Value.ref.injEq, reduceCtorEq, exists_eq_left', exists_eq_left, exists_and_left, exists_and_right, and_assoc, and_true, true_and, true_or, or_true, x_rfv_ref, x_rfv_null, Prod.mk.injEq, List.set_cons_zero, List.set_cons_succ, List.length_cons, List.length_nil, Value.category, x_nl0, x_nl1, x_nl2, x_nl3, x_nl4, x_nl5, x_nl6, x_nl7, x_nl8, x_nl9, x_nl10, x_nl11, x_nl12, List.map_nil, List.map_cons, List.sum_nil, List.sum_cons, Option.toList_some, Option.toList_none, List.nil_append, List.cons_append, xl_lt, xl_gt, xl_eq, ↓reduceIte, Nat.reduceLT, Nat.reduceAdd, Nat.reduceLeDiff, x_up_self, x_uu, lt0, ln0, lx0, lt1, ln1, lx1, lt2, ln2, lx2, lt3, ln3, lx3, lt4, ln4, lx4, lt5, ln5, lx5, lt6, ln6, lx6, lt7, ln7, lx7, lt8, ln8, lx8, lt9, ln9, lx9, lt10, ln10, lx10, lt11, ln11, lx11, lt12, ln12, lx12, lt13, ln13, lx13, lt14, ln14, lx14, lt15, ln15, lx15, lt16, ln16, lx16, lt17, ln17, lx17, lt18, ln18, lx18, lt19, ln19, lx19, lt20, ln20, lx20, lt21, ln21, lx21, lt22, ln22, lx22, lt23, ln23, lx23, lt24, ln24, lx24, la0, la1, la2, la3, la4, la5, la6, la7, la8, la9, la10, la11, la12, lb0, lb1, lb2, lb3, lb4, lb5, lb6, lb7, lb8, lb9, lb10, lb11, lb12, lt60, lt400, lt900, ltm1, ltm2, ltm4, ltm10000, lt10000, lt1000000, ltm1000000, lt10000000, lt2000, lt100000, Int.toNat_natCast, i1ne0, i0eq0, Int.reduceLT, Int.reduceLE, Int.reduceToNat, Int.reduceNeg, not_true, not_false_iff, false_imp_iff, true_imp_iff, imp_self, implies_true, Option.isSome_some, Bool.false_eq_true, h0, x_clv h0]
  refine s_endedPage (x := nI S.2.2.2.2.2.2.length - 1) g0 ⟨P5, p5a, p5b⟩ (by omega) ?_
  have ub : ∀ (w : xM) e c, c ≠ b → x_up w (A b) e (A c) = w (A c) := fun w e c hc => x_up_ne _ _ (ainj_ne hA hc)
  -- the page made, the mark before it
  have mk : wX7_endPage B ad K 39 [.ref (A 0), (if okp S (nI S.2.2.2.2.2.2.length - 1) then .ref (A (1000 + 6 * (nI S.2.2.2.2.2.2.length - 1).toInt.toNat)) else .null)] [.int (pg_bot S.2.2.2.2.2.2), .ref (A 6), .ref (A b), .ref (A b), .int (nI S.2.2.2.2.2.2.length), .ref (A 3)] (x_up σ.1 (A b) (6, [.null, .null, .null, .long 0, .int 0, .int 0, .int 0, .int 0]), σ.2.1 + 1, σ.2.2 + 8) := by
    simp only [eX7_endPage_39, List.getElem?_cons_zero, List.getElem?_cons_succ, Option.some.injEq, Value.int.injEq, Value.long.injEq, Value.ref.injEq, reduceCtorEq, exists_eq_left', exists_eq_left, exists_and_left, exists_and_right, and_assoc, and_true, true_and, true_or, or_true, x_rfv_ref, x_rfv_null, Prod.mk.injEq, List.set_cons_zero, List.set_cons_succ, List.length_cons, List.length_nil, Value.category, x_nl0, x_nl1, x_nl2, x_nl3, x_nl4, x_nl5, x_nl6, x_nl7, x_nl8, x_nl9, x_nl10, x_nl11, x_nl12, List.map_nil, List.map_cons, List.sum_nil, List.sum_cons, Option.toList_some, Option.toList_none, List.nil_append, List.cons_append, xl_lt, xl_gt, xl_eq, ↓reduceIte, Nat.reduceLT, Nat.reduceAdd, Nat.reduceLeDiff, x_up_self, x_uu, lt0, ln0, lx0, lt1, ln1, lx1, lt2, ln2, lx2, lt3, ln3, lx3, lt4, ln4, lx4, lt5, ln5, lx5, lt6, ln6, lx6, lt7, ln7, lx7, lt8, ln8, lx8, lt9, ln9, lx9, lt10, ln10, lx10, lt11, ln11, lx11, lt12, ln12, lx12, lt13, ln13, lx13, lt14, ln14, lx14, lt15, ln15, lx15, lt16, ln16, lx16, lt17, ln17, lx17, lt18, ln18, lx18, lt19, ln19, lx19, lt20, ln20, lx20, lt21, ln21, lx21, lt22, ln22, lx22, lt23, ln23, lx23, lt24, ln24, lx24, la0, la1, la2, la3, la4, la5, la6, la7, la8, la9, la10, la11, la12, lb0, lb1, lb2, lb3, lb4, lb5, lb6, lb7, lb8, lb9, lb10, lb11, lb12, lt60, lt400, lt900, ltm1, ltm2, ltm4, ltm10000, lt10000, lt1000000, ltm1000000, lt10000000, lt2000, lt100000, Int.toNat_natCast, i1ne0, i0eq0, Int.reduceLT, Int.reduceLE, Int.reduceToNat, Int.reduceNeg, not_true, not_false_iff, false_imp_iff, true_imp_iff, imp_self, implies_true, Option.isSome_some, Bool.false_eq_true, x_cl1]
    have hN1 : σ.2.1 + 1 = A (b + 1) := (hN 1 (by decide)).symm
    rw [hN1]
    have fb : ∀ c, c ≠ b → x_up σ.1 (A b) (6, [.null, .null, .null, .long 0, .int 0, .int 0, .int 0, .int 0]) (A c) = σ.1 (A c) := fun c hc => ub _ _ c hc
    refine s_initPg (I := S.1) (lf := S.2.2.2.1.2.1) (we := S.2.2.2.1.2.2) (l := S.2.2.2.2.1.1) (bs := S.2.2.2.2.2.1.2.1) hA hB hb1000 (by rw [hN 1 (by decide), hN 2 (by decide)]) (by rw [hN 2 (by decide), hN 3 (by decide)]) (by rw [hN 3 (by decide), hN 4 (by decide)]) (by rw [hN 4 (by decide), hN 5 (by decide)]) (fun i => (iv_okI hi i).1) (fun q hq => iv_pn hi hq) hbs (by omega) hni d2 d3 ?_ kA (drc_mv gd (fun c h1 h2 => fb c (by omega)) fun _ _ _ => rfl) ?_ (x_up_self _ _ _) fun w1 k0 km k4 k5 kf => ?_
    · exact knd_frm kn fun j hj => x_up_ne _ _ (kA j b hj)
    · intro j hj
      obtain ⟨pl, sd, e⟩ := gI j hj
      exact ⟨pl, sd, (fb _ (by omega)).trans e⟩
    · have fA : ∀ c, c < b → w1 (A c) = σ.1 (A c) := fun c hc => (frc_at hA kf (by simp; omega)).trans (fb c (by omega))
      have k0' := k0
      unfold pgo at k0'
      have f0 := (fA 0 (by omega)).trans h0
      have f3 := (fA 3 (by omega)).trans p5a
      have nn : nI S.2.2.2.2.2.2.length + 1 = nI (S.2.2.2.2.2.2.length + 1) := nI_1 _
      have hix : (x_ix (nI S.2.2.2.2.2.2.length) P5).isSome := apre_some p5b hp60 (by decide)
      have u30 : ∀ (w : xM) e, x_up w (A 3) e (A 0) = w (A 0) := fun w e => x_up_ne _ _ (ainj_ne hA (by decide))
      have u0c : ∀ (w : xM) e c, c ≠ 0 → x_up w (A 0) e (A c) = w (A c) := fun w e c hc => x_up_ne _ _ (ainj_ne hA hc)
      have u3c : ∀ (w : xM) e c, c ≠ 3 → x_up w (A 3) e (A c) = w (A c) := fun w e c hc => x_up_ne _ _ (ainj_ne hA hc)
      have hN5 : A (b + 5) + 1 = σ.2.1 + 6 := by rw [hN 5 (by decide)]
      simp only [eX7_endPage_42, eX7_endPage_43, eX7_endPage_44, eX7_endPage_45, eX7_endPage_48, eX7_endPage_49, eX7_endPage_50, eX7_endPage_53, List.getElem?_cons_zero, List.getElem?_cons_succ, Option.some.injEq, Value.int.injEq, Value.long.injEq, Value.ref.injEq, reduceCtorEq, exists_eq_left', exists_eq_left, exists_and_left, exists_and_right, and_assoc, and_true, true_and, true_or, or_true, x_rfv_ref, x_rfv_null, Prod.mk.injEq, List.set_cons_zero, List.set_cons_succ, List.length_cons, List.length_nil, Value.category, x_nl0, x_nl1, x_nl2, x_nl3, x_nl4, x_nl5, x_nl6, x_nl7, x_nl8, x_nl9, x_nl10, x_nl11, x_nl12, List.map_nil, List.map_cons, List.sum_nil, List.sum_cons, Option.toList_some, Option.toList_none, List.nil_append, List.cons_append, xl_lt, xl_gt, xl_eq, ↓reduceIte, Nat.reduceLT, Nat.reduceAdd, Nat.reduceLeDiff, x_up_self, x_uu, lt0, ln0, lx0, lt1, ln1, lx1, lt2, ln2, lx2, lt3, ln3, lx3, lt4, ln4, lx4, lt5, ln5, lx5, lt6, ln6, lx6, lt7, ln7, lx7, lt8, ln8, lx8, lt9, ln9, lx9, lt10, ln10, lx10, lt11, ln11, lx11, lt12, ln12, lx12, lt13, ln13, lx13, lt14, ln14, lx14, lt15, ln15, lx15, lt16, ln16, lx16, lt17, ln17, lx17, lt18, ln18, lx18, lt19, ln19, lx19, lt20, ln20, lx20, lt21, ln21, lx21, lt22, ln22, lx22, lt23, ln23, lx23, lt24, ln24, lx24, la0, la1, la2, la3, la4, la5, la6, la7, la8, la9, la10, la11, la12, lb0, lb1, lb2, lb3, lb4, lb5, lb6, lb7, lb8, lb9, lb10, lb11, lb12, lt60, lt400, lt900, ltm1, ltm2, ltm4, ltm10000, lt10000, lt1000000, ltm1000000, lt10000000, lt2000, lt100000, Int.toNat_natCast, i1ne0, i0eq0, Int.reduceLT, Int.reduceLE, Int.reduceToNat, Int.reduceNeg, not_true, not_false_iff, false_imp_iff, true_imp_iff, imp_self, implies_true, Option.isSome_some, Bool.false_eq_true, f3, k0', hix, hB 3, u30, f0, hB 0, nn, nI_nat (show S.2.2.2.2.2.2.length < 2 ^ 31 by omega), hN5]
      -- behind the new page
      have gen : ∀ w2 : xM, w2 (A 0) = some (pbc A (m_end S)) → w2 (A 3) = some (105, P5.set S.2.2.2.2.2.2.length (.ref (A b))) → (∀ x, x ≠ A 0 → x ≠ A 3 → w2 x = w1 x) → wX7_endPage B ad K 54 [.ref (A 0), (if okp S (nI S.2.2.2.2.2.2.length - 1) then .ref (A (1000 + 6 * (nI S.2.2.2.2.2.2.length - 1).toInt.toNat)) else .null)] [.ref (A 0)] (w2, σ.2.1 + 6, σ.2.2 + 8 + 6 + 4 + 4 + S.2.2.2.2.2.1.2.1 + S.2.2.2.2.2.1.2.1) := by
        intro w2 j0 j3 jf
        have j0' := j0
        unfold pbc at j0'
        have eA : ∀ c, c ≠ 0 → c ≠ 3 → c < b → w2 (A c) = σ.1 (A c) := fun c c0 c3 cb => (jf _ (ainj_ne hA c0) (ainj_ne hA c3)).trans (fA c cb)
        have kn2 : knd w2 ad := knd_frm kn fun j hj => ((jf _ (kA j 0 hj) (kA j 3 hj)).trans (kf _ fun c _ => kA j c hj)).trans (x_up_ne _ _ (kA j b hj))
        have hXe : (S.2.2.2.2.1.1.drop S.2.2.2.2.2.1.2.1).map (fun q => q.1) ++ S.2.2.2.1.1 = m_fst S :: (m_X S).tail := X_ne hne
        have hfl : m_fst S < S.1.1 := iv_lt hi (by rw [all_QX, X_ne hne]; exact List.mem_append_right _ List.mem_cons_self)
        have gl2 : RCl w2 A S.2.2.2.1.1 := RCl_mv gl (fun c hc => eA c (by omega) (by omega) (by omega)) rfl fun _ _ => rfl
        have gI2 : RCI w2 ad A S.1 S.2.2.2.1.2.1 S.2.2.2.1.2.2 := fun j hj => by
          obtain ⟨pl, sd, e⟩ := gI j hj
          exact ⟨pl, sd, (eA _ (by omega) (by omega) (by omega)).trans e⟩
        have hd2 := drc_mv (A' := A) (w' := w2) gd (fun c h1 h2 => eA c (by omega) (by omega) (by omega)) fun _ _ _ => rfl
        simp only [eX7_endPage_54, List.getElem?_cons_zero, List.getElem?_cons_succ, Option.some.injEq, Value.int.injEq, Value.long.injEq, Value.ref.injEq, reduceCtorEq, exists_eq_left', exists_eq_left, exists_and_left, exists_and_right, and_assoc, and_true, true_and, true_or, or_true, x_rfv_ref, x_rfv_null, Prod.mk.injEq, List.set_cons_zero, List.set_cons_succ, List.length_cons, List.length_nil, Value.category, x_nl0, x_nl1, x_nl2, x_nl3, x_nl4, x_nl5, x_nl6, x_nl7, x_nl8, x_nl9, x_nl10, x_nl11, x_nl12, List.map_nil, List.map_cons, List.sum_nil, List.sum_cons, Option.toList_some, Option.toList_none, List.nil_append, List.cons_append, xl_lt, xl_gt, xl_eq, ↓reduceIte, Nat.reduceLT, Nat.reduceAdd, Nat.reduceLeDiff, x_up_self, x_uu, lt0, ln0, lx0, lt1, ln1, lx1, lt2, ln2, lx2, lt3, ln3, lx3, lt4, ln4, lx4, lt5, ln5, lx5, lt6, ln6, lx6, lt7, ln7, lx7, lt8, ln8, lx8, lt9, ln9, lx9, lt10, ln10, lx10, lt11, ln11, lx11, lt12, ln12, lx12, lt13, ln13, lx13, lt14, ln14, lx14, lt15, ln15, lx15, lt16, ln16, lx16, lt17, ln17, lx17, lt18, ln18, lx18, lt19, ln19, lx19, lt20, ln20, lx20, lt21, ln21, lx21, lt22, ln22, lx22, lt23, ln23, lx23, lt24, ln24, lx24, la0, la1, la2, la3, la4, la5, la6, la7, la8, la9, la10, la11, la12, lb0, lb1, lb2, lb3, lb4, lb5, lb6, lb7, lb8, lb9, lb10, lb11, lb12, lt60, lt400, lt900, ltm1, ltm2, ltm4, ltm10000, lt10000, lt1000000, ltm1000000, lt10000000, lt2000, lt100000, Int.toNat_natCast, i1ne0, i0eq0, Int.reduceLT, Int.reduceLE, Int.reduceToNat, Int.reduceNeg, not_true, not_false_iff, false_imp_iff, true_imp_iff, imp_self, implies_true, Option.isSome_some, Bool.false_eq_true, x_clvp j0']
        refine s_putBackFromBreak (σ := (w2, σ.2.1 + 6, σ.2.2 + 8 + 6 + 4 + 4 + S.2.2.2.2.2.1.2.1 + S.2.2.2.2.2.1.2.1)) (I := S.1) (l := S.2.2.2.2.1.1) (bs := S.2.2.2.2.2.1.2.1) (i := m_fst S) (X := (m_X S).tail) hA hB kn2 kA (fun i => (iv_okI hi i).1) rfl rfl rfl rfl rfl d2 (fun q hq => iv_pn hi hq) hbs (by omega) hXe hfl j0' hd2.1 hd2.2.1 gl2 gI2 fun w3 l3 I3 f3 => ?_
        have eX : (if (S.1.2 (m_fst S)).1 = 3 then (m_X S).tail else m_fst S :: (m_X S).tail) = m_X' S := by
          unfold m_X'
          rw [← X_ne hne]; rfl
        rw [eX] at l3
        have e3 : ∀ c, c ≠ 4 → c ≠ 5 → c ≠ 100 + m_fst S → w3 (A c) = w2 (A c) := fun c c4 c5 c6 => frc_at hA f3 (by simp; omega)
        have k03 := (e3 0 (by omega) (by omega) (by omega)).trans j0'
        have hd3 := drc_mv (A' := A) (w' := w3) hd2 (fun c h1 h2 => e3 c (by omega) (by omega) (by omega)) fun _ _ _ => rfl
        have hXl : S.2.2.2.2.2.1.2.1 + (m_X' S).length ≤ 400 := by
          have q1 : (m_X' S).length ≤ (m_X S).length := by
            unfold m_X'
            split
            · rw [List.length_tail]; omega
            · omega
          have q2 : (m_X S).length = S.2.2.2.2.1.1.length - S.2.2.2.2.2.1.2.1 + S.2.2.2.1.1.length := by
            unfold m_X; rw [List.length_append, List.length_map, List.length_drop]
          omega
        simp only [eX7_endPage_57, eX7_endPage_58, List.getElem?_cons_zero, List.getElem?_cons_succ, Option.some.injEq, Value.int.injEq, Value.long.injEq, Value.ref.injEq, reduceCtorEq, exists_eq_left', exists_eq_left, exists_and_left, exists_and_right, and_assoc, and_true, true_and, true_or, or_true, x_rfv_ref, x_rfv_null, Prod.mk.injEq, List.set_cons_zero, List.set_cons_succ, List.length_cons, List.length_nil, Value.category, x_nl0, x_nl1, x_nl2, x_nl3, x_nl4, x_nl5, x_nl6, x_nl7, x_nl8, x_nl9, x_nl10, x_nl11, x_nl12, List.map_nil, List.map_cons, List.sum_nil, List.sum_cons, Option.toList_some, Option.toList_none, List.nil_append, List.cons_append, xl_lt, xl_gt, xl_eq, ↓reduceIte, Nat.reduceLT, Nat.reduceAdd, Nat.reduceLeDiff, x_up_self, x_uu, lt0, ln0, lx0, lt1, ln1, lx1, lt2, ln2, lx2, lt3, ln3, lx3, lt4, ln4, lx4, lt5, ln5, lx5, lt6, ln6, lx6, lt7, ln7, lx7, lt8, ln8, lx8, lt9, ln9, lx9, lt10, ln10, lx10, lt11, ln11, lx11, lt12, ln12, lx12, lt13, ln13, lx13, lt14, ln14, lx14, lt15, ln15, lx15, lt16, ln16, lx16, lt17, ln17, lx17, lt18, ln18, lx18, lt19, ln19, lx19, lt20, ln20, lx20, lt21, ln21, lx21, lt22, ln22, lx22, lt23, ln23, lx23, lt24, ln24, lx24, la0, la1, la2, la3, la4, la5, la6, la7, la8, la9, la10, la11, la12, lb0, lb1, lb2, lb3, lb4, lb5, lb6, lb7, lb8, lb9, lb10, lb11, lb12, lt60, lt400, lt900, ltm1, ltm2, ltm4, ltm10000, lt10000, lt1000000, ltm1000000, lt10000000, lt2000, lt100000, Int.toNat_natCast, i1ne0, i0eq0, Int.reduceLT, Int.reduceLE, Int.reduceToNat, Int.reduceNeg, not_true, not_false_iff, false_imp_iff, true_imp_iff, imp_self, implies_true, Option.isSome_some, Bool.false_eq_true, x_clvp k03]
        refine s_putBackInserts (σ := (w3, σ.2.1 + 6, σ.2.2 + 8 + 6 + 4 + 4 + S.2.2.2.2.2.1.2.1 + S.2.2.2.2.2.1.2.1)) (I := S.1) (l := S.2.2.2.2.1.1) (bs := S.2.2.2.2.2.1.2.1) (X := m_X' S) hA hB rfl rfl rfl rfl rfl d2 d3 (fun q hq => iv_pn hi hq) hbs (by omega) hXl k03 hd3.1 hd3.2.1 hd3.2.2.1 l3 I3 fun w4 l4 I4 f4 => ?_
        have e4 : ∀ c, c ≠ 4 → c ≠ 5 → (∀ e, e ∈ S.2.2.2.2.1.1.take S.2.2.2.2.2.1.2.1 → c ≠ 100 + e.1) → w4 (A c) = w3 (A c) := fun c c4 c5 ce => f4 _ (ainj_ne hA c4) (ainj_ne hA c5) fun e he => ainj_ne hA (ce e he)
        have qn : ∀ e, e ∈ S.2.2.2.2.1.1.take S.2.2.2.2.2.1.2.1 → e.1 < S.1.1 := fun e he => iv_pn hi (List.mem_of_mem_take he)
        have k04 := (e4 0 (by omega) (by omega) fun e _ => by omega).trans k03
        have hd4 := drc_mv (A' := A) (w' := w4) hd3 (fun c h1 h2 => e4 c (by omega) (by omega) fun e _ => by omega) fun _ _ _ => rfl
        simp only [eX7_endPage_61, eX7_endPage_62, eX7_endPage_65, eX7_endPage_66, eX7_endPage_69, eX7_endPage_70, eX7_endPage_73, eX7_endPage_74, eX7_endPage_77, List.getElem?_cons_zero, List.getElem?_cons_succ, Option.some.injEq, Value.int.injEq, Value.long.injEq, Value.ref.injEq, reduceCtorEq, exists_eq_left', exists_eq_left, exists_and_left, exists_and_right, and_assoc, and_true, true_and, true_or, or_true, x_rfv_ref, x_rfv_null, Prod.mk.injEq, List.set_cons_zero, List.set_cons_succ, List.length_cons, List.length_nil, Value.category, x_nl0, x_nl1, x_nl2, x_nl3, x_nl4, x_nl5, x_nl6, x_nl7, x_nl8, x_nl9, x_nl10, x_nl11, x_nl12, List.map_nil, List.map_cons, List.sum_nil, List.sum_cons, Option.toList_some, Option.toList_none, List.nil_append, List.cons_append, xl_lt, xl_gt, xl_eq, ↓reduceIte, Nat.reduceLT, Nat.reduceAdd, Nat.reduceLeDiff, x_up_self, x_uu, lt0, ln0, lx0, lt1, ln1, lx1, lt2, ln2, lx2, lt3, ln3, lx3, lt4, ln4, lx4, lt5, ln5, lx5, lt6, ln6, lx6, lt7, ln7, lx7, lt8, ln8, lx8, lt9, ln9, lx9, lt10, ln10, lx10, lt11, ln11, lx11, lt12, ln12, lx12, lt13, ln13, lx13, lt14, ln14, lx14, lt15, ln15, lx15, lt16, ln16, lx16, lt17, ln17, lx17, lt18, ln18, lx18, lt19, ln19, lx19, lt20, ln20, lx20, lt21, ln21, lx21, lt22, ln22, lx22, lt23, ln23, lx23, lt24, ln24, lx24, la0, la1, la2, la3, la4, la5, la6, la7, la8, la9, la10, la11, la12, lb0, lb1, lb2, lb3, lb4, lb5, lb6, lb7, lb8, lb9, lb10, lb11, lb12, lt60, lt400, lt900, ltm1, ltm2, ltm4, ltm10000, lt10000, lt1000000, ltm1000000, lt10000000, lt2000, lt100000, Int.toNat_natCast, i1ne0, i0eq0, Int.reduceLT, Int.reduceLE, Int.reduceToNat, Int.reduceNeg, not_true, not_false_iff, false_imp_iff, true_imp_iff, imp_self, implies_true, Option.isSome_some, Bool.false_eq_true, k04, x_clvp hd4.1]
        refine s_begin (σ := (w4, σ.2.1 + 6, σ.2.2 + 8 + 6 + 4 + 4 + S.2.2.2.2.2.1.2.1 + S.2.2.2.2.2.1.2.1)) hA (fun i _ _ => hB i) hd4 fun w5 hd5 f5 => ?_
        simp only [eX7_endPage_0, eX7_endPage_1, eX7_endPage_2, eX7_endPage_5, eX7_endPage_6, eX7_endPage_7, eX7_endPage_10, eX7_endPage_11, eX7_endPage_12, eX7_endPage_15, eX7_endPage_16, eX7_endPage_19, eX7_endPage_22, eX7_endPage_23, eX7_endPage_24, eX7_endPage_27, eX7_endPage_28, eX7_endPage_31, eX7_endPage_32, eX7_endPage_35, eX7_endPage_36, eX7_endPage_39, eX7_endPage_42, eX7_endPage_43, eX7_endPage_44, eX7_endPage_45, eX7_endPage_48, eX7_endPage_49, eX7_endPage_50, eX7_endPage_53, eX7_endPage_54, eX7_endPage_57, eX7_endPage_58, eX7_endPage_61, eX7_endPage_62, eX7_endPage_65, eX7_endPage_66, eX7_endPage_69, eX7_endPage_70, eX7_endPage_73, eX7_endPage_74, eX7_endPage_77, eX7_endPage_80, List.getElem?_cons_zero, List.getElem?_cons_succ, Option.some.injEq, Value.int.injEq, Value.long.injEq, Value.ref.injEq, reduceCtorEq, exists_eq_left', exists_eq_left, exists_and_left, exists_and_right, and_assoc, and_true, true_and, true_or, or_true, x_rfv_ref, x_rfv_null, Prod.mk.injEq, List.set_cons_zero, List.set_cons_succ, List.length_cons, List.length_nil, Value.category, x_nl0, x_nl1, x_nl2, x_nl3, x_nl4, x_nl5, x_nl6, x_nl7, x_nl8, x_nl9, x_nl10, x_nl11, x_nl12, List.map_nil, List.map_cons, List.sum_nil, List.sum_cons, Option.toList_some, Option.toList_none, List.nil_append, List.cons_append, xl_lt, xl_gt, xl_eq, ↓reduceIte, Nat.reduceLT, Nat.reduceAdd, Nat.reduceLeDiff, x_up_self, x_uu, lt0, ln0, lx0, lt1, ln1, lx1, lt2, ln2, lx2, lt3, ln3, lx3, lt4, ln4, lx4, lt5, ln5, lx5, lt6, ln6, lx6, lt7, ln7, lx7, lt8, ln8, lx8, lt9, ln9, lx9, lt10, ln10, lx10, lt11, ln11, lx11, lt12, ln12, lx12, lt13, ln13, lx13, lt14, ln14, lx14, lt15, ln15, lx15, lt16, ln16, lx16, lt17, ln17, lx17, lt18, ln18, lx18, lt19, ln19, lx19, lt20, ln20, lx20, lt21, ln21, lx21, lt22, ln22, lx22, lt23, ln23, lx23, lt24, ln24, lx24, la0, la1, la2, la3, la4, la5, la6, la7, la8, la9, la10, la11, la12, lb0, lb1, lb2, lb3, lb4, lb5, lb6, lb7, lb8, lb9, lb10, lb11, lb12, lt60, lt400, lt900, ltm1, ltm2, ltm4, ltm10000, lt10000, lt1000000, ltm1000000, lt10000000, lt2000, lt100000, Int.toNat_natCast, i1ne0, i0eq0, Int.reduceLT, Int.reduceLE, Int.reduceToNat, Int.reduceNeg, not_true, not_false_iff, false_imp_iff, true_imp_iff, imp_self, implies_true, Option.isSome_some, Bool.false_eq_true]
        have e5 : ∀ c, c < 6 ∨ 16 < c → w5 (A c) = w4 (A c) := fun c hc => frm_at hA f5 hc
        obtain ⟨bh, bl⟩ := b_eq (lf := S.2.2.2.1.2.1) (m_Q S) (fun i => by have := iv_Q hi i; omega) (iv_over hi)
        have ho : ∀ c, c ≠ 4 → c ≠ 5 → c < 6 ∨ 16 < c → (c < 100 ∨ 100 + S.1.1 ≤ c) → w5 (A c) = w2 (A c) := fun c c4 c5 c6 c7 => by
          rw [e5 c c6, e4 c c4 c5 fun e he => by have := qn e he; omega, e3 c c4 c5 (by omega)]
        have esl : σ.2.2 + 8 + 6 + 4 + 4 + S.2.2.2.2.2.1.2.1 + S.2.2.2.2.2.1.2.1 = σ.2.2 + 22 + S.2.2.2.2.2.1.2.1 + S.2.2.2.2.2.1.2.1 := by omega
        rw [esl]
        refine h w5 ⟨(ho 0 (by omega) (by omega) (by omega) (by omega)).trans j0, ?_, ?_, ?_, ?_, ?_, ?_, ?_, ?_⟩ ?_
        · exact RCi_mv gi ((ho 1 (by omega) (by omega) (by omega) (by omega)).trans (eA 1 (by omega) (by omega) (by omega))) fun _ _ => rfl
        · exact RCc_mv gc ((ho 2 (by omega) (by omega) (by omega) (by omega)).trans (eA 2 (by omega) (by omega) (by omega))) fun _ _ => rfl
        · have : (m_end S).2.2.2.2.2.2.length = S.2.2.2.2.2.2.length + 1 := by
            show (S.2.2.2.2.2.2 ++ [m_pg S]).length = _
            rw [List.length_append]; rfl
          rw [this]
          exact aw_push (v := .ref (A b)) p5b hp60 ((ho 3 (by omega) (by omega) (by omega) (by omega)).trans j3) (fun _ _ => rfl) (by rw [← hbb])
        · have el : (m_end S).2.2.2.1.1 = b_hd S.2.2.2.1.2.1 (m_Q S) ++ m_X' S := by
            show (m_again S).map (fun a => a.1) = _
            rw [again_X hbs, held_m, bh]
          rw [el]
          exact RCl_mv l4 (fun c hc => e5 c (by omega)) rfl fun _ _ => rfl
        · refine ⟨VI, VP, 1073741823, 0, 0, _, hd5, ⟨d2.1, fun i hi => absurd hi (Nat.not_lt_zero i)⟩, ⟨d3.1, fun i hi => absurd hi (Nat.not_lt_zero i)⟩, fun _ => rfl, fun q => by cases q⟩
        · have el : (m_end S).2.2.2.1.2.1 = b_lf S.2.2.2.1.2.1 (m_Q S) := by
            show m_lf S.2.2.2.1.2.1 (m_Q S) = _
            funext i; exact (bl i).symm
          rw [el]
          intro j hj
          obtain ⟨pl, sd, e⟩ := I4 j hj
          exact ⟨pl, sd, (e5 _ (by omega)).trans e⟩
        · have n4 := hi.1.2.1
          refine RCC_mv gC fun k hk => ?_
          have hk' : k < S.2.1.1 := hk
          exact (ho _ (by omega) (by omega) (by omega) (by omega)).trans (eA _ (by omega) (by omega) (by omega))
        · have el : (m_end S).2.2.2.2.2.2 = S.2.2.2.2.2.2 ++ [m_pg S] := rfl
          rw [el]
          intro p hp
          rw [List.length_append] at hp
          have hp' : p < S.2.2.2.2.2.2.length + 1 := hp
          by_cases hpn : p < S.2.2.2.2.2.2.length
          · rw [pat_ap hpn]
            exact pgc_mv (gP p hpn) (fun j hj => (ho _ (by omega) (by omega) (by omega) (by omega)).trans (eA _ (by omega) (by omega) (by omega))) fun _ _ => rfl
          · have hpe : p = S.2.2.2.2.2.2.length := by omega
            subst hpe
            rw [pat_al]
            have hz : ∀ c, b ≤ c → w5 (A c) = w1 (A c) := fun c hc => (ho c (by omega) (by omega) (by omega) (by omega)).trans (jf _ (ainj_ne hA (by omega)) (ainj_ne hA (by omega)))
            unfold pgc
            rw [hbb]
            refine ⟨?_, ?_, ?_, ?_⟩
            · rw [hz b (by omega), k0]; rfl
            · obtain ⟨m1, m2, m3⟩ := km
              exact ⟨(hz _ (by omega)).trans m1, (hz _ (by omega)).trans m2, (hz _ (by omega)).trans m3⟩
            · rw [hz _ (by omega), k4]
              unfold m_pg m_Q
              rw [List.map_map]; rfl
            · rw [hz _ (by omega), k5]
              unfold m_pg m_Q
              rw [List.map_map]; rfl
        · intro x hx hxu
          have hxb : ∀ j, j < 6 → x ≠ A (b + j) := fun j hj => by rw [hN j hj]; omega
          rw [f5 x fun c _ h2 => hxu c (us_le h2)]
          refine (f4 x (hxu 4 (us_le (by decide))) (hxu 5 (us_le (by decide))) fun e he => hxu _ (Or.inr (Or.inr (Or.inl ⟨by omega, by have := qn e he; omega⟩)))).trans ?_
          refine (f3 x fun c hc => ?_).trans ?_
          · simp at hc
            rcases hc with rfl | rfl | rfl
            · exact hxu 4 (us_le (by decide))
            · exact hxu 5 (us_le (by decide))
            · exact hxu _ (Or.inr (Or.inr (Or.inl ⟨by omega, by omega⟩)))
          · refine (jf x (hxu 0 (us_le (by decide))) (hxu 3 (us_le (by decide)))).trans ?_
            refine (kf x fun c hc => ?_).trans (x_up_ne _ _ (hxb 0 (by decide)))
            simp at hc
            rcases hc with rfl | rfl | rfl | rfl | rfl | rfl
            · exact hxb 0 (by decide)
            · exact hxb 1 (by decide)
            · exact hxb 2 (by decide)
            · exact hxb 3 (by decide)
            · exact hxb 4 (by decide)
            · exact hxb 5 (by decide)
      refine gen _ ?_ ?_ fun x x0 x3 => ?_
      · rw [x_up_self]
        unfold pbc
        have : (m_end S).2.2.2.2.2.2.length = S.2.2.2.2.2.2.length + 1 := by
          show (S.2.2.2.2.2.2 ++ [m_pg S]).length = _
          rw [List.length_append]; rfl
        rw [this]
        rfl
      · rw [x_upA hA, if_neg (by decide), x_up_self]
      · rw [x_up_ne _ _ x0, x_up_ne _ _ x3]
  rw [← hN0] at mk
  have ub0 : ∀ (w : xM) e, x_up w (A b) e (A 0) = w (A 0) := fun w e => ub w e 0 (by omega)
  by_cases hnp : S.2.2.2.2.2.2.length = 0
  · have ho : okp S (nI S.2.2.2.2.2.2.length - 1) = false := by
      refine okp_f (Or.inl ?_)
      rw [nI_m1 (by omega)]; omega
    rw [ho] at mk ⊢
    have hpb : pg_bot S.2.2.2.2.2.2 = 0 := by
      have : S.2.2.2.2.2.2 = [] := List.eq_nil_of_length_eq_zero hnp
      rw [this]; rfl
    rw [hpb] at mk
    simp only [eX7_endPage_10, eX7_endPage_11, eX7_endPage_12, eX7_endPage_15, eX7_endPage_16, eX7_endPage_19, eX7_endPage_22, eX7_endPage_23, eX7_endPage_24, eX7_endPage_27, eX7_endPage_28, eX7_endPage_31, eX7_endPage_32, eX7_endPage_35, eX7_endPage_36, List.getElem?_cons_zero, List.getElem?_cons_succ, Option.some.injEq, Value.int.injEq, Value.long.injEq, Value.ref.injEq, reduceCtorEq, exists_eq_left', exists_eq_left, exists_and_left, exists_and_right, and_assoc, and_true, true_and, true_or, or_true, x_rfv_ref, x_rfv_null, Prod.mk.injEq, List.set_cons_zero, List.set_cons_succ, List.length_cons, List.length_nil, Value.category, x_nl0, x_nl1, x_nl2, x_nl3, x_nl4, x_nl5, x_nl6, x_nl7, x_nl8, x_nl9, x_nl10, x_nl11, x_nl12, List.map_nil, List.map_cons, List.sum_nil, List.sum_cons, Option.toList_some, Option.toList_none, List.nil_append, List.cons_append, xl_lt, xl_gt, xl_eq, ↓reduceIte, Nat.reduceLT, Nat.reduceAdd, Nat.reduceLeDiff, x_up_self, x_uu, lt0, ln0, lx0, lt1, ln1, lx1, lt2, ln2, lx2, lt3, ln3, lx3, lt4, ln4, lx4, lt5, ln5, lx5, lt6, ln6, lx6, lt7, ln7, lx7, lt8, ln8, lx8, lt9, ln9, lx9, lt10, ln10, lx10, lt11, ln11, lx11, lt12, ln12, lx12, lt13, ln13, lx13, lt14, ln14, lx14, lt15, ln15, lx15, lt16, ln16, lx16, lt17, ln17, lx17, lt18, ln18, lx18, lt19, ln19, lx19, lt20, ln20, lx20, lt21, ln21, lx21, lt22, ln22, lx22, lt23, ln23, lx23, lt24, ln24, lx24, la0, la1, la2, la3, la4, la5, la6, la7, la8, la9, la10, la11, la12, lb0, lb1, lb2, lb3, lb4, lb5, lb6, lb7, lb8, lb9, lb10, lb11, lb12, lt60, lt400, lt900, ltm1, ltm2, ltm4, ltm10000, lt10000, lt1000000, ltm1000000, lt10000000, lt2000, lt100000, Int.toNat_natCast, i1ne0, i0eq0, Int.reduceLT, Int.reduceLE, Int.reduceToNat, Int.reduceNeg, not_true, not_false_iff, false_imp_iff, true_imp_iff, imp_self, implies_true, Option.isSome_some, Bool.false_eq_true, h0, ← hN0, ub0]
    exact mk
  · obtain ⟨np, hnp'⟩ : ∃ np, S.2.2.2.2.2.2.length = np + 1 := ⟨S.2.2.2.2.2.2.length - 1, by omega⟩
    have e1 : nI S.2.2.2.2.2.2.length - 1 = nI np := by rw [hnp']; exact nI_pred np
    have ho : okp S (nI np) = true := okp_t (by omega) (by omega)
    rw [e1, ho] at mk ⊢
    rw [nI_nat (by omega)] at mk ⊢
    have hpg := (gP np (by omega)).1
    have hpg' : ∀ e, x_up σ.1 (A b) e (A (1000 + 6 * np)) = some (6, [.ref (A (1000 + 6 * np + 4)), .ref (A (1000 + 6 * np + 5)), .ref (A (1000 + 6 * np + 1)), .long (pg_at S.2.2.2.2.2.2 np).2.2.1, .int (pg_at S.2.2.2.2.2.2 np).2.2.2.1, .int (pg_at S.2.2.2.2.2.2 np).2.2.2.2.1, .int (pg_at S.2.2.2.2.2.2 np).2.2.2.2.2.1, .int (pg_at S.2.2.2.2.2.2 np).2.2.2.2.2.2]) := fun e => by
      rw [ub _ _ _ (by omega)]; exact hpg
    rw [pbot_last hnp'] at mk
    simp only [eX7_endPage_10, eX7_endPage_11, eX7_endPage_12, eX7_endPage_15, eX7_endPage_16, eX7_endPage_19, eX7_endPage_22, eX7_endPage_23, eX7_endPage_24, eX7_endPage_27, eX7_endPage_28, eX7_endPage_31, eX7_endPage_32, eX7_endPage_35, eX7_endPage_36, List.getElem?_cons_zero, List.getElem?_cons_succ, Option.some.injEq, Value.int.injEq, Value.long.injEq, Value.ref.injEq, reduceCtorEq, exists_eq_left', exists_eq_left, exists_and_left, exists_and_right, and_assoc, and_true, true_and, true_or, or_true, x_rfv_ref, x_rfv_null, Prod.mk.injEq, List.set_cons_zero, List.set_cons_succ, List.length_cons, List.length_nil, Value.category, x_nl0, x_nl1, x_nl2, x_nl3, x_nl4, x_nl5, x_nl6, x_nl7, x_nl8, x_nl9, x_nl10, x_nl11, x_nl12, List.map_nil, List.map_cons, List.sum_nil, List.sum_cons, Option.toList_some, Option.toList_none, List.nil_append, List.cons_append, xl_lt, xl_gt, xl_eq, ↓reduceIte, Nat.reduceLT, Nat.reduceAdd, Nat.reduceLeDiff, x_up_self, x_uu, lt0, ln0, lx0, lt1, ln1, lx1, lt2, ln2, lx2, lt3, ln3, lx3, lt4, ln4, lx4, lt5, ln5, lx5, lt6, ln6, lx6, lt7, ln7, lx7, lt8, ln8, lx8, lt9, ln9, lx9, lt10, ln10, lx10, lt11, ln11, lx11, lt12, ln12, lx12, lt13, ln13, lx13, lt14, ln14, lx14, lt15, ln15, lx15, lt16, ln16, lx16, lt17, ln17, lx17, lt18, ln18, lx18, lt19, ln19, lx19, lt20, ln20, lx20, lt21, ln21, lx21, lt22, ln22, lx22, lt23, ln23, lx23, lt24, ln24, lx24, la0, la1, la2, la3, la4, la5, la6, la7, la8, la9, la10, la11, la12, lb0, lb1, lb2, lb3, lb4, lb5, lb6, lb7, lb8, lb9, lb10, lb11, lb12, lt60, lt400, lt900, ltm1, ltm2, ltm4, ltm10000, lt10000, lt1000000, ltm1000000, lt10000000, lt2000, lt100000, Int.toNat_natCast, i1ne0, i0eq0, Int.reduceLT, Int.reduceLE, Int.reduceToNat, Int.reduceNeg, not_true, not_false_iff, false_imp_iff, true_imp_iff, imp_self, implies_true, Option.isSome_some, Bool.false_eq_true, h0, ← hN0, ub0, hpg']
    exact mk
