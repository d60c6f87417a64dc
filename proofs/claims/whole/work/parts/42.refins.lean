/-! THE REFERENCE: putInsert -/
def m_pi (S : MS) (c : Nat) (part : Int64) (stands : Bool) : MS := (S.1, S.2.1, S.2.2.1, S.2.2.2.1, (S.2.2.2.2.1.1, S.2.2.2.2.1.2.1, ups (ups S.2.2.2.2.1.2.2.1 (8 + c) (S.2.2.2.2.1.2.2.1 (8 + c) + part)) 1 (S.2.2.2.2.1.2.2.1 1 - part * (S.2.1.2 c).2.1.toInt64 / 1000), S.2.2.2.2.1.2.2.2.1, S.2.2.2.2.1.2.2.2.2.1, (if stands then S.2.2.2.2.1.2.2.2.2.2.1 else S.2.2.2.2.1.2.2.2.2.2.1 + (S.2.1.2 c).2.2.2.toInt64), S.2.2.2.2.1.2.2.2.2.2.2.1, (if stands then S.2.2.2.2.1.2.2.2.2.2.2.2 else ub S.2.2.2.2.1.2.2.2.2.2.2.2 c)), S.2.2.2.2.2)
theorem ne1000 : (1000 : Int64) = 0 ↔ False := by decide
theorem l8a : (8 : Int32) + 0 = 8 := by decide
theorem l8b : (8 : Int32) + 1 = 9 := by decide
theorem l8c : (8 : Int32) + 2 = 10 := by decide
theorem l8d : (8 : Int32) + 3 = 11 := by decide
theorem ln_0 : nI 0 = 0 := rfl
theorem ln_1 : nI 1 = 1 := rfl
theorem ln_2 : nI 2 = 2 := rfl
theorem ln_3 : nI 3 = 3 := rfl
/-- the last place of the page's arrays is written -/
theorem aw_last {w : xM} {M : Nat → Nat} {c t N n : Nat} {f g : Nat → Value} {V : List Value} {v : Value} (h : apre V N (n + 1) f) (hw : w (M c) = some (t, V.set n v)) (hg : ∀ i, i < n → f i = g i) (hv : v = g n) : aw w M c t N (n + 1) g := by
  have hn : n + 1 ≤ N := by
    rcases Nat.lt_or_ge N (n + 1) with hlt | hge
    · have := h.2 n (by omega)
      rw [List.getElem?_eq_none (by rw [h.1]; omega)] at this
      cases this
    · exact hge
  refine ⟨_, hw, apre_congr (apre_set h (by omega)) fun i hi => ?_⟩
  by_cases e : i = n
  · rw [if_pos e, e]; exact hv
  · rw [if_neg e]; exact hg i (by omega)
theorem o_cs {l : List (Nat × Int32 × Bool)} {q q' : Nat × Int32 × Bool} {j : Nat} (h : j < l.length + 1) : ((l ++ [q]).getD j (0, 0, false) = (l ++ [q']).getD j (0, 0, false)) ∨ ((l ++ [q]).getD j (0, 0, false) = q ∧ (l ++ [q']).getD j (0, 0, false) = q') := by
  by_cases hj : j < l.length
  · left; rw [o_ap hj, o_ap hj]
  · have : j = l.length := by omega
    subst this
    right; exact ⟨o_al, o_al⟩
theorem on_i_ap {l : List (Nat × Int32 × Bool)} {i : Nat} {p p' : Int32} {o o' : Bool} {j : Nat} (h : j < l.length + 1) : on_i (l ++ [(i, p, o)]) j = on_i (l ++ [(i, p', o')]) j := by
  unfold on_i
  rcases o_cs (q := (i, p, o)) (q' := (i, p', o')) h with e | ⟨e1, e2⟩
  · rw [e]
  · rw [e1, e2]
theorem on_o_ap {l : List (Nat × Int32 × Bool)} {i : Nat} {p p' : Int32} {o : Bool} {j : Nat} (h : j < l.length + 1) : on_o (l ++ [(i, p, o)]) j = on_o (l ++ [(i, p', o)]) j := by
  unfold on_o
  rcases o_cs (q := (i, p, o)) (q' := (i, p', o)) h with e | ⟨e1, e2⟩
  · rw [e]
  · rw [e1, e2]
theorem on_p_lt {l : List (Nat × Int32 × Bool)} {q q' : Nat × Int32 × Bool} {j : Nat} (h : j < l.length) : on_p (l ++ [q]) j = on_p (l ++ [q']) j := by
  unfold on_p; rw [o_ap h, o_ap h]
theorem on_o_lt {l : List (Nat × Int32 × Bool)} {q q' : Nat × Int32 × Bool} {j : Nat} (h : j < l.length) : on_o (l ++ [q]) j = on_o (l ++ [q']) j := by
  unfold on_o; rw [o_ap h, o_ap h]
theorem on_p_al {l : List (Nat × Int32 × Bool)} {q : Nat × Int32 × Bool} : on_p (l ++ [q]) l.length = q.2.1 := by unfold on_p; rw [o_al]
theorem on_o_al {l : List (Nat × Int32 × Bool)} {q : Nat × Int32 × Bool} : on_o (l ++ [q]) l.length = q.2.2 := by unfold on_o; rw [o_al]
theorem len1 {l : List (Nat × Int32 × Bool)} {q : Nat × Int32 × Bool} : (l ++ [q]).length = l.length + 1 := by simp
set_option maxRecDepth 20000 in
set_option maxHeartbeats 1000000 in
theorem pi_tail {B : Nat} {ad M : Nat → Nat} {thr cuts : Int32} {S : MS} {i cn : Nat} {hh part : Int64} {stands : Bool} {x8 x9 x10 x11 x12 x13 : Value} {σ : xW} {K : xK} (hM : ainj M) (hB : ∀ c, B ≤ M c) (h0 : RMm σ.1 M thr S (i, 0, false)) (hc : cn < S.2.1.1) (h : ∀ w', RMm w' M thr (m_pi S cn part stands) (i, part.toInt32, !stands) → frx M σ.1 w' → K none (w', σ.2)) : wX8_putInsert B ad K 236 [.ref (M 0), .int (nI cn), .int cuts, .long hh, .retAddr 0, .long part, .retAddr 0, .int (bz stands), x8, x9, x10, x11, x12, x13] [] σ := by
  obtain ⟨r0, rI, rC, rL, rD, rS, rP, rX⟩ := h0
  obtain ⟨⟨V8, c1, c2⟩, ⟨V9, c3, c4⟩, ⟨V10, c5, c6⟩, ⟨V11, c7, c8⟩⟩ := id rC
  obtain ⟨T, t1, t2, t3⟩ := RMS_iff.mp rS
  obtain ⟨d1, d2, ⟨V21, d3, d3'⟩, ⟨V22, d4, d4'⟩, d5, d6⟩ := id rD
  rw [List.length_append, List.length_singleton] at d3' d4'
  have hn : S.2.1.1 ≤ 4 := apre_n c2
  have ho : S.2.2.2.2.1.1.length + 1 ≤ 900 := apre_n d3'
  have e9 : V9[cn]? = some (.int (S.2.1.2 cn).2.1) := c4.2 cn hc
  have e11 : V11[cn]? = some (.int (S.2.1.2 cn).2.2.2) := c8.2 cn hc
  have r0' := r0
  unfold mo_ mobj at r0'
  unfold ls12 at t1
  replace d6 : σ.1 (M 29) = some (102, b4 S.2.2.2.2.1.2.2.2.2.2.2.2) := d6
  unfold b4 at d6
  have hcc : cn = 0 ∨ cn = 1 ∨ cn = 2 ∨ cn = 3 := by omega
  have tl : ∀ (w1 : xM) (fs : Nat → Int64), frc M [21, 24] σ.1 w1 → w1 (M 21) = some (100, V21.set S.2.2.2.2.1.1.length (.int part.toInt32)) → w1 (M 24) = some (101, ls12 (m_pi S cn part stands).2.2.2.2.1.2.2.1 T) → wX8_putInsert B ad K 287 [.ref (M 0), .int (nI cn), .int cuts, .long hh, .retAddr 0, .long part, .retAddr 0, .int (bz stands), x8, x9, x10, x11, x12, x13] [.int (bz stands)] (w1, σ.2) := by
    intro w1 _ f1 g21 g24
    have D1 : ∀ w2 : xM, frc M [0, 21, 22, 24, 29] σ.1 w2 → ∀ o : Bool, aw w2 M 19 100 900 (S.2.2.2.2.1.1 ++ [(i, part.toInt32, o)]).length (fun j => .int (nI (on_i (S.2.2.2.2.1.1 ++ [(i, part.toInt32, o)]) j))) := fun w2 f2 o => by
      have := aw_frc hM f2 (by decide) d1
      rw [len1] at this ⊢
      exact aw_congr this fun j hj => by rw [on_i_ap hj]
    have D2 : ∀ w2 : xM, frc M [0, 21, 22, 24, 29] σ.1 w2 → ∀ o : Bool, aw w2 M 20 100 900 (S.2.2.2.2.1.1 ++ [(i, part.toInt32, o)]).length (fun j => .int (S.2.2.2.1.2.1 (on_i (S.2.2.2.2.1.1 ++ [(i, part.toInt32, o)]) j))) := fun w2 f2 o => by
      have := aw_frc hM f2 (by decide) d2
      rw [len1] at this ⊢
      exact aw_congr this fun j hj => by rw [on_i_ap hj]
    have D3 : ∀ w2 : xM, w2 (M 21) = some (100, V21.set S.2.2.2.2.1.1.length (.int part.toInt32)) → ∀ o : Bool, aw w2 M 21 100 900 (S.2.2.2.2.1.1 ++ [(i, part.toInt32, o)]).length (fun j => .int (on_p (S.2.2.2.2.1.1 ++ [(i, part.toInt32, o)]) j)) := fun w2 g2 o => by
      rw [len1]
      exact aw_last d3' g2 (fun j hj => by rw [on_p_lt hj]) (by rw [on_p_al])
    cases stands with
    | true =>
      simp only [eX8_putInsert_287, eX8_putInsert_290, eX8_putInsert_291, eX8_putInsert_294, eX8_putInsert_295, eX8_putInsert_298, eX8_putInsert_299, eX8_putInsert_300, eX8_putInsert_301, eX8_putInsert_304, eX8_putInsert_305, eX8_putInsert_306, eX8_putInsert_307, eX8_putInsert_308, eX8_putInsert_309, eX8_putInsert_312, eX8_putInsert_313, eX8_putInsert_316, eX8_putInsert_317, eX8_putInsert_318, eX8_putInsert_319, eX8_putInsert_320, eX8_putInsert_323, List.getElem?_cons_zero, List.getElem?_cons_succ, Option.some.injEq, Value.int.injEq, Value.long.injEq, Value.ref.injEq, reduceCtorEq, exists_eq_left', exists_eq_left, exists_and_left, exists_and_right, and_assoc, and_true, true_and, true_or, or_true, x_rfv_ref, x_rfv_null, Prod.mk.injEq, List.set_cons_zero, List.set_cons_succ, List.length_cons, List.length_nil, Value.category, x_nl0, x_nl1, x_nl2, x_nl3, x_nl4, x_nl5, x_nl6, x_nl7, x_nl8, x_nl9, x_nl10, x_nl11, x_nl12, List.map_nil, List.map_cons, List.sum_nil, List.sum_cons, Option.toList_some, Option.toList_none, List.nil_append, List.cons_append, xl_lt, xl_gt, xl_eq, ↓reduceIte, Nat.reduceLT, Nat.reduceAdd, Nat.reduceLeDiff, x_up_self, x_uu, lt0, ln0, lx0, lt1, ln1, lx1, lt2, ln2, lx2, lt3, ln3, lx3, lt4, ln4, lx4, lt5, ln5, lx5, lt6, ln6, lx6, lt7, ln7, lx7, lt8, ln8, lx8, lt9, ln9, lx9, lt10, ln10, lx10, lt11, ln11, lx11, lt12, ln12, lx12, lt13, ln13, lx13, lt14, ln14, lx14, lt15, ln15, lx15, lt16, ln16, lx16, lt17, ln17, lx17, lt18, ln18, lx18, lt19, ln19, lx19, lt20, ln20, lx20, lt21, ln21, lx21, lt22, ln22, lx22, lt23, ln23, lx23, lt24, ln24, lx24, la0, la1, la2, la3, la4, la5, la6, la7, la8, la9, la10, la11, la12, lb0, lb1, lb2, lb3, lb4, lb5, lb6, lb7, lb8, lb9, lb10, lb11, lb12, lt60, lt400, lt900, ltm1, ltm2, ltm4, ltm10000, lt10000, lt1000000, ltm1000000, lt10000000, lt2000, lt100000, Int.toNat_natCast, i1ne0, i0eq0, Int.reduceLT, Int.reduceLE, Int.reduceToNat, Int.reduceNeg, not_true, not_false_iff, false_imp_iff, true_imp_iff, imp_self, implies_true, Option.isSome_some, Bool.false_eq_true, bzt]
      have f2 : frc M [0, 21, 22, 24, 29] σ.1 w1 := frc_tr (frc_rf) f1 (by decide)
      refine h w1 ⟨?_, RMI_frc hM f1 (by decide) rI, RMC_frc hM f1 (by decide) rC, RML_frc hM f1 (by decide) rL, ⟨D1 w1 f2 _, D2 w1 f2 _, D3 w1 g21 _, ?_, ?_, ?_⟩, RMS_iff.mpr ⟨T, g24, t2, t3⟩, RMP_frc hM f1 (by decide) rP, RMX_frc hM f1 (by decide) rX⟩ (frc_x f1)
      · rw [frc_at hM f1 (by decide)]; exact r0
      · have hv : aw w1 M 22 102 900 (S.2.2.2.2.1.1.length + 1) _ := ⟨V22, (frc_at hM f1 (by decide)).trans d4, d4'⟩
        rw [len1]
        exact aw_congr hv fun j hj => by rw [on_o_ap hj]; rfl
      · rw [frc_at hM f1 (by decide)]; exact d5
      · rw [frc_at hM f1 (by decide)]; exact d6
    | false =>
      have k0 : w1 (M 0) = _ := (frc_at hM f1 (by decide)).trans r0'
      have k22 : w1 (M 22) = _ := (frc_at hM f1 (by decide)).trans d4
      have k29 : w1 (M 29) = _ := (frc_at hM f1 (by decide)).trans d6
      have k11 : w1 (M 11) = _ := (frc_at hM f1 (by decide)).trans c7
      have fin : ∀ w2, frc M [0, 21, 22, 24, 29] σ.1 w2 → w2 (M 21) = w1 (M 21) → w2 (M 24) = w1 (M 24) → w2 (M 22) = some (102, V22.set S.2.2.2.2.1.1.length (.int 1)) → w2 (M 29) = some (102, b4 (ub S.2.2.2.2.1.2.2.2.2.2.2.2 cn)) → w2 (M 0) = some (mo_ M thr (m_pi S cn part false)) → K none (w2, σ.2) := by
        intro w2 f2 m21 m24 m22 m29 m0
        refine h w2 ⟨m0, RMI_frc hM f2 (by decide) rI, RMC_frc hM f2 (by decide) rC, RML_frc hM f2 (by decide) rL, ⟨D1 w2 f2 _, D2 w2 f2 _, D3 w2 (m21.trans g21) _, ?_, ?_, ?_⟩, RMS_iff.mpr ⟨T, m24.trans g24, t2, t3⟩, RMP_frc hM f2 (by decide) rP, RMX_frc hM f2 (by decide) rX⟩ (frc_x f2)
        · rw [len1]
          exact aw_last d4' m22 (fun j hj => by rw [on_o_lt hj]; rfl) (by rw [on_o_al]; rfl)
        · rw [frc_at hM f2 (by decide)]; exact d5
        · exact m29
      have f2 : ∀ a b c, frc M [0, 21, 22, 24, 29] σ.1 (x_up (x_up (x_up w1 (M 22) a) (M 29) b) (M 0) c) := fun a b c => frc_up (frc_up (frc_up (frc_tr frc_rf f1 (by decide)) (by simp)) (by simp)) (by simp)
      have hcc : cn = 0 ∨ cn = 1 ∨ cn = 2 ∨ cn = 3 := by omega
      rcases hcc with rfl | rfl | rfl | rfl
      · rw [ln_0]
        simp only [eX8_putInsert_287, eX8_putInsert_290, eX8_putInsert_291, eX8_putInsert_294, eX8_putInsert_295, eX8_putInsert_298, eX8_putInsert_299, eX8_putInsert_300, eX8_putInsert_301, eX8_putInsert_304, eX8_putInsert_305, eX8_putInsert_306, eX8_putInsert_307, eX8_putInsert_308, eX8_putInsert_309, eX8_putInsert_312, eX8_putInsert_313, eX8_putInsert_316, eX8_putInsert_317, eX8_putInsert_318, eX8_putInsert_319, eX8_putInsert_320, eX8_putInsert_323, List.getElem?_cons_zero, List.getElem?_cons_succ, Option.some.injEq, Value.int.injEq, Value.long.injEq, Value.ref.injEq, reduceCtorEq, exists_eq_left', exists_eq_left, exists_and_left, exists_and_right, and_assoc, and_true, true_and, true_or, or_true, x_rfv_ref, x_rfv_null, Prod.mk.injEq, List.set_cons_zero, List.set_cons_succ, List.length_cons, List.length_nil, Value.category, x_nl0, x_nl1, x_nl2, x_nl3, x_nl4, x_nl5, x_nl6, x_nl7, x_nl8, x_nl9, x_nl10, x_nl11, x_nl12, List.map_nil, List.map_cons, List.sum_nil, List.sum_cons, Option.toList_some, Option.toList_none, List.nil_append, List.cons_append, xl_lt, xl_gt, xl_eq, ↓reduceIte, Nat.reduceLT, Nat.reduceAdd, Nat.reduceLeDiff, x_up_self, x_uu, lt0, ln0, lx0, lt1, ln1, lx1, lt2, ln2, lx2, lt3, ln3, lx3, lt4, ln4, lx4, lt5, ln5, lx5, lt6, ln6, lx6, lt7, ln7, lx7, lt8, ln8, lx8, lt9, ln9, lx9, lt10, ln10, lx10, lt11, ln11, lx11, lt12, ln12, lx12, lt13, ln13, lx13, lt14, ln14, lx14, lt15, ln15, lx15, lt16, ln16, lx16, lt17, ln17, lx17, lt18, ln18, lx18, lt19, ln19, lx19, lt20, ln20, lx20, lt21, ln21, lx21, lt22, ln22, lx22, lt23, ln23, lx23, lt24, ln24, lx24, la0, la1, la2, la3, la4, la5, la6, la7, la8, la9, la10, la11, la12, lb0, lb1, lb2, lb3, lb4, lb5, lb6, lb7, lb8, lb9, lb10, lb11, lb12, lt60, lt400, lt900, ltm1, ltm2, ltm4, ltm10000, lt10000, lt1000000, ltm1000000, lt10000000, lt2000, lt100000, Int.toNat_natCast, i1ne0, i0eq0, Int.reduceLT, Int.reduceLE, Int.reduceToNat, Int.reduceNeg, not_true, not_false_iff, false_imp_iff, true_imp_iff, imp_self, implies_true, Option.isSome_some, Bool.false_eq_true, bzf, k0, k22, k29, k11, e11, hB, x_upA hM, Nat.reduceEqDiff, or_true, apre_some d4' (show S.2.2.2.2.1.1.length < 900 by omega) (by decide), nI_nat (show S.2.2.2.2.1.1.length < 2 ^ 31 by omega)]
        refine fin _ (f2 _ _ _) ?_ ?_ ?_ ?_ ?_
        · simp [x_upA hM]
        · simp [x_upA hM]
        · simp [x_upA hM]
        · simp [x_upA hM]; rfl
        · rw [x_up_self]; rfl
      · rw [ln_1]
        simp only [eX8_putInsert_287, eX8_putInsert_290, eX8_putInsert_291, eX8_putInsert_294, eX8_putInsert_295, eX8_putInsert_298, eX8_putInsert_299, eX8_putInsert_300, eX8_putInsert_301, eX8_putInsert_304, eX8_putInsert_305, eX8_putInsert_306, eX8_putInsert_307, eX8_putInsert_308, eX8_putInsert_309, eX8_putInsert_312, eX8_putInsert_313, eX8_putInsert_316, eX8_putInsert_317, eX8_putInsert_318, eX8_putInsert_319, eX8_putInsert_320, eX8_putInsert_323, List.getElem?_cons_zero, List.getElem?_cons_succ, Option.some.injEq, Value.int.injEq, Value.long.injEq, Value.ref.injEq, reduceCtorEq, exists_eq_left', exists_eq_left, exists_and_left, exists_and_right, and_assoc, and_true, true_and, true_or, or_true, x_rfv_ref, x_rfv_null, Prod.mk.injEq, List.set_cons_zero, List.set_cons_succ, List.length_cons, List.length_nil, Value.category, x_nl0, x_nl1, x_nl2, x_nl3, x_nl4, x_nl5, x_nl6, x_nl7, x_nl8, x_nl9, x_nl10, x_nl11, x_nl12, List.map_nil, List.map_cons, List.sum_nil, List.sum_cons, Option.toList_some, Option.toList_none, List.nil_append, List.cons_append, xl_lt, xl_gt, xl_eq, ↓reduceIte, Nat.reduceLT, Nat.reduceAdd, Nat.reduceLeDiff, x_up_self, x_uu, lt0, ln0, lx0, lt1, ln1, lx1, lt2, ln2, lx2, lt3, ln3, lx3, lt4, ln4, lx4, lt5, ln5, lx5, lt6, ln6, lx6, lt7, ln7, lx7, lt8, ln8, lx8, lt9, ln9, lx9, lt10, ln10, lx10, lt11, ln11, lx11, lt12, ln12, lx12, lt13, ln13, lx13, lt14, ln14, lx14, lt15, ln15, lx15, lt16, ln16, lx16, lt17, ln17, lx17, lt18, ln18, lx18, lt19, ln19, lx19, lt20, ln20, lx20, lt21, ln21, lx21, lt22, ln22, lx22, lt23, ln23, lx23, lt24, ln24, lx24, la0, la1, la2, la3, la4, la5, la6, la7, la8, la9, la10, la11, la12, lb0, lb1, lb2, lb3, lb4, lb5, lb6, lb7, lb8, lb9, lb10, lb11, lb12, lt60, lt400, lt900, ltm1, ltm2, ltm4, ltm10000, lt10000, lt1000000, ltm1000000, lt10000000, lt2000, lt100000, Int.toNat_natCast, i1ne0, i0eq0, Int.reduceLT, Int.reduceLE, Int.reduceToNat, Int.reduceNeg, not_true, not_false_iff, false_imp_iff, true_imp_iff, imp_self, implies_true, Option.isSome_some, Bool.false_eq_true, bzf, k0, k22, k29, k11, e11, hB, x_upA hM, Nat.reduceEqDiff, or_true, apre_some d4' (show S.2.2.2.2.1.1.length < 900 by omega) (by decide), nI_nat (show S.2.2.2.2.1.1.length < 2 ^ 31 by omega)]
        refine fin _ (f2 _ _ _) ?_ ?_ ?_ ?_ ?_
        · simp [x_upA hM]
        · simp [x_upA hM]
        · simp [x_upA hM]
        · simp [x_upA hM]; rfl
        · rw [x_up_self]; rfl
      · rw [ln_2]
        simp only [eX8_putInsert_287, eX8_putInsert_290, eX8_putInsert_291, eX8_putInsert_294, eX8_putInsert_295, eX8_putInsert_298, eX8_putInsert_299, eX8_putInsert_300, eX8_putInsert_301, eX8_putInsert_304, eX8_putInsert_305, eX8_putInsert_306, eX8_putInsert_307, eX8_putInsert_308, eX8_putInsert_309, eX8_putInsert_312, eX8_putInsert_313, eX8_putInsert_316, eX8_putInsert_317, eX8_putInsert_318, eX8_putInsert_319, eX8_putInsert_320, eX8_putInsert_323, List.getElem?_cons_zero, List.getElem?_cons_succ, Option.some.injEq, Value.int.injEq, Value.long.injEq, Value.ref.injEq, reduceCtorEq, exists_eq_left', exists_eq_left, exists_and_left, exists_and_right, and_assoc, and_true, true_and, true_or, or_true, x_rfv_ref, x_rfv_null, Prod.mk.injEq, List.set_cons_zero, List.set_cons_succ, List.length_cons, List.length_nil, Value.category, x_nl0, x_nl1, x_nl2, x_nl3, x_nl4, x_nl5, x_nl6, x_nl7, x_nl8, x_nl9, x_nl10, x_nl11, x_nl12, List.map_nil, List.map_cons, List.sum_nil, List.sum_cons, Option.toList_some, Option.toList_none, List.nil_append, List.cons_append, xl_lt, xl_gt, xl_eq, ↓reduceIte, Nat.reduceLT, Nat.reduceAdd, Nat.reduceLeDiff, x_up_self, x_uu, lt0, ln0, lx0, lt1, ln1, lx1, lt2, ln2, lx2, lt3, ln3, lx3, lt4, ln4, lx4, lt5, ln5, lx5, lt6, ln6, lx6, lt7, ln7, lx7, lt8, ln8, lx8, lt9, ln9, lx9, lt10, ln10, lx10, lt11, ln11, lx11, lt12, ln12, lx12, lt13, ln13, lx13, lt14, ln14, lx14, lt15, ln15, lx15, lt16, ln16, lx16, lt17, ln17, lx17, lt18, ln18, lx18, lt19, ln19, lx19, lt20, ln20, lx20, lt21, ln21, lx21, lt22, ln22, lx22, lt23, ln23, lx23, lt24, ln24, lx24, la0, la1, la2, la3, la4, la5, la6, la7, la8, la9, la10, la11, la12, lb0, lb1, lb2, lb3, lb4, lb5, lb6, lb7, lb8, lb9, lb10, lb11, lb12, lt60, lt400, lt900, ltm1, ltm2, ltm4, ltm10000, lt10000, lt1000000, ltm1000000, lt10000000, lt2000, lt100000, Int.toNat_natCast, i1ne0, i0eq0, Int.reduceLT, Int.reduceLE, Int.reduceToNat, Int.reduceNeg, not_true, not_false_iff, false_imp_iff, true_imp_iff, imp_self, implies_true, Option.isSome_some, Bool.false_eq_true, bzf, k0, k22, k29, k11, e11, hB, x_upA hM, Nat.reduceEqDiff, or_true, apre_some d4' (show S.2.2.2.2.1.1.length < 900 by omega) (by decide), nI_nat (show S.2.2.2.2.1.1.length < 2 ^ 31 by omega)]
        refine fin _ (f2 _ _ _) ?_ ?_ ?_ ?_ ?_
        · simp [x_upA hM]
        · simp [x_upA hM]
        · simp [x_upA hM]
        · simp [x_upA hM]; rfl
        · rw [x_up_self]; rfl
      · rw [ln_3]
        simp only [eX8_putInsert_287, eX8_putInsert_290, eX8_putInsert_291, eX8_putInsert_294, eX8_putInsert_295, eX8_putInsert_298, eX8_putInsert_299, eX8_putInsert_300, eX8_putInsert_301, eX8_putInsert_304, eX8_putInsert_305, eX8_putInsert_306, eX8_putInsert_307, eX8_putInsert_308, eX8_putInsert_309, eX8_putInsert_312, eX8_putInsert_313, eX8_putInsert_316, eX8_putInsert_317, eX8_putInsert_318, eX8_putInsert_319, eX8_putInsert_320, eX8_putInsert_323, List.getElem?_cons_zero, List.getElem?_cons_succ, Option.some.injEq, Value.int.injEq, Value.long.injEq, Value.ref.injEq, reduceCtorEq, exists_eq_left', exists_eq_left, exists_and_left, exists_and_right, and_assoc, and_true, true_and, true_or, or_true, x_rfv_ref, x_rfv_null, Prod.mk.injEq, List.set_cons_zero, List.set_cons_succ, List.length_cons, List.length_nil, Value.category, x_nl0, x_nl1, x_nl2, x_nl3, x_nl4, x_nl5, x_nl6, x_nl7, x_nl8, x_nl9, x_nl10, x_nl11, x_nl12, List.map_nil, List.map_cons, List.sum_nil, List.sum_cons, Option.toList_some, Option.toList_none, List.nil_append, List.cons_append, xl_lt, xl_gt, xl_eq, ↓reduceIte, Nat.reduceLT, Nat.reduceAdd, Nat.reduceLeDiff, x_up_self, x_uu, lt0, ln0, lx0, lt1, ln1, lx1, lt2, ln2, lx2, lt3, ln3, lx3, lt4, ln4, lx4, lt5, ln5, lx5, lt6, ln6, lx6, lt7, ln7, lx7, lt8, ln8, lx8, lt9, ln9, lx9, lt10, ln10, lx10, lt11, ln11, lx11, lt12, ln12, lx12, lt13, ln13, lx13, lt14, ln14, lx14, lt15, ln15, lx15, lt16, ln16, lx16, lt17, ln17, lx17, lt18, ln18, lx18, lt19, ln19, lx19, lt20, ln20, lx20, lt21, ln21, lx21, lt22, ln22, lx22, lt23, ln23, lx23, lt24, ln24, lx24, la0, la1, la2, la3, la4, la5, la6, la7, la8, la9, la10, la11, la12, lb0, lb1, lb2, lb3, lb4, lb5, lb6, lb7, lb8, lb9, lb10, lb11, lb12, lt60, lt400, lt900, ltm1, ltm2, ltm4, ltm10000, lt10000, lt1000000, ltm1000000, lt10000000, lt2000, lt100000, Int.toNat_natCast, i1ne0, i0eq0, Int.reduceLT, Int.reduceLE, Int.reduceToNat, Int.reduceNeg, not_true, not_false_iff, false_imp_iff, true_imp_iff, imp_self, implies_true, Option.isSome_some, Bool.false_eq_true, bzf, k0, k22, k29, k11, e11, hB, x_upA hM, Nat.reduceEqDiff, or_true, apre_some d4' (show S.2.2.2.2.1.1.length < 900 by omega) (by decide), nI_nat (show S.2.2.2.2.1.1.length < 2 ^ 31 by omega)]
        refine fin _ (f2 _ _ _) ?_ ?_ ?_ ?_ ?_
        · simp [x_upA hM]
        · simp [x_upA hM]
        · simp [x_upA hM]
        · simp [x_upA hM]; rfl
        · rw [x_up_self]; rfl
  rcases hcc with rfl | rfl | rfl | rfl
  · rw [ln_0] at tl ⊢
    simp only [eX8_putInsert_236, eX8_putInsert_237, eX8_putInsert_240, eX8_putInsert_241, eX8_putInsert_244, eX8_putInsert_246, eX8_putInsert_247, eX8_putInsert_248, eX8_putInsert_249, eX8_putInsert_252, eX8_putInsert_254, eX8_putInsert_255, eX8_putInsert_256, eX8_putInsert_257, eX8_putInsert_258, eX8_putInsert_260, eX8_putInsert_261, eX8_putInsert_262, eX8_putInsert_263, eX8_putInsert_266, eX8_putInsert_267, eX8_putInsert_268, eX8_putInsert_269, eX8_putInsert_271, eX8_putInsert_272, eX8_putInsert_275, eX8_putInsert_276, eX8_putInsert_277, eX8_putInsert_278, eX8_putInsert_279, eX8_putInsert_282, eX8_putInsert_283, eX8_putInsert_284, eX8_putInsert_285, List.getElem?_cons_zero, List.getElem?_cons_succ, Option.some.injEq, Value.int.injEq, Value.long.injEq, Value.ref.injEq, reduceCtorEq, exists_eq_left', exists_eq_left, exists_and_left, exists_and_right, and_assoc, and_true, true_and, true_or, or_true, x_rfv_ref, x_rfv_null, Prod.mk.injEq, List.set_cons_zero, List.set_cons_succ, List.length_cons, List.length_nil, Value.category, x_nl0, x_nl1, x_nl2, x_nl3, x_nl4, x_nl5, x_nl6, x_nl7, x_nl8, x_nl9, x_nl10, x_nl11, x_nl12, List.map_nil, List.map_cons, List.sum_nil, List.sum_cons, Option.toList_some, Option.toList_none, List.nil_append, List.cons_append, xl_lt, xl_gt, xl_eq, ↓reduceIte, Nat.reduceLT, Nat.reduceAdd, Nat.reduceLeDiff, x_up_self, x_uu, lt0, ln0, lx0, lt1, ln1, lx1, lt2, ln2, lx2, lt3, ln3, lx3, lt4, ln4, lx4, lt5, ln5, lx5, lt6, ln6, lx6, lt7, ln7, lx7, lt8, ln8, lx8, lt9, ln9, lx9, lt10, ln10, lx10, lt11, ln11, lx11, lt12, ln12, lx12, lt13, ln13, lx13, lt14, ln14, lx14, lt15, ln15, lx15, lt16, ln16, lx16, lt17, ln17, lx17, lt18, ln18, lx18, lt19, ln19, lx19, lt20, ln20, lx20, lt21, ln21, lx21, lt22, ln22, lx22, lt23, ln23, lx23, lt24, ln24, lx24, la0, la1, la2, la3, la4, la5, la6, la7, la8, la9, la10, la11, la12, lb0, lb1, lb2, lb3, lb4, lb5, lb6, lb7, lb8, lb9, lb10, lb11, lb12, lt60, lt400, lt900, ltm1, ltm2, ltm4, ltm10000, lt10000, lt1000000, ltm1000000, lt10000000, lt2000, lt100000, Int.toNat_natCast, i1ne0, i0eq0, Int.reduceLT, Int.reduceLE, Int.reduceToNat, Int.reduceNeg, not_true, not_false_iff, false_imp_iff, true_imp_iff, imp_self, implies_true, Option.isSome_some, Bool.false_eq_true, r0', c3, t1, d3, hB, e9, l8a, l8b, l8c, l8d, x_upA hM, Nat.reduceEqDiff, ne1000, not_false_eq_true, apre_some d3' (show S.2.2.2.2.1.1.length < 900 by omega) (by decide), nI_nat (show S.2.2.2.2.1.1.length < 2 ^ 31 by omega)]
    refine tl _ (fun _ => 0) (frc_up (frc_up frc_rf (by simp)) (by simp)) ?_ ?_
    · simp [x_upA hM]
    · simp [x_upA hM]; rfl
  · rw [ln_1] at tl ⊢
    simp only [eX8_putInsert_236, eX8_putInsert_237, eX8_putInsert_240, eX8_putInsert_241, eX8_putInsert_244, eX8_putInsert_246, eX8_putInsert_247, eX8_putInsert_248, eX8_putInsert_249, eX8_putInsert_252, eX8_putInsert_254, eX8_putInsert_255, eX8_putInsert_256, eX8_putInsert_257, eX8_putInsert_258, eX8_putInsert_260, eX8_putInsert_261, eX8_putInsert_262, eX8_putInsert_263, eX8_putInsert_266, eX8_putInsert_267, eX8_putInsert_268, eX8_putInsert_269, eX8_putInsert_271, eX8_putInsert_272, eX8_putInsert_275, eX8_putInsert_276, eX8_putInsert_277, eX8_putInsert_278, eX8_putInsert_279, eX8_putInsert_282, eX8_putInsert_283, eX8_putInsert_284, eX8_putInsert_285, List.getElem?_cons_zero, List.getElem?_cons_succ, Option.some.injEq, Value.int.injEq, Value.long.injEq, Value.ref.injEq, reduceCtorEq, exists_eq_left', exists_eq_left, exists_and_left, exists_and_right, and_assoc, and_true, true_and, true_or, or_true, x_rfv_ref, x_rfv_null, Prod.mk.injEq, List.set_cons_zero, List.set_cons_succ, List.length_cons, List.length_nil, Value.category, x_nl0, x_nl1, x_nl2, x_nl3, x_nl4, x_nl5, x_nl6, x_nl7, x_nl8, x_nl9, x_nl10, x_nl11, x_nl12, List.map_nil, List.map_cons, List.sum_nil, List.sum_cons, Option.toList_some, Option.toList_none, List.nil_append, List.cons_append, xl_lt, xl_gt, xl_eq, ↓reduceIte, Nat.reduceLT, Nat.reduceAdd, Nat.reduceLeDiff, x_up_self, x_uu, lt0, ln0, lx0, lt1, ln1, lx1, lt2, ln2, lx2, lt3, ln3, lx3, lt4, ln4, lx4, lt5, ln5, lx5, lt6, ln6, lx6, lt7, ln7, lx7, lt8, ln8, lx8, lt9, ln9, lx9, lt10, ln10, lx10, lt11, ln11, lx11, lt12, ln12, lx12, lt13, ln13, lx13, lt14, ln14, lx14, lt15, ln15, lx15, lt16, ln16, lx16, lt17, ln17, lx17, lt18, ln18, lx18, lt19, ln19, lx19, lt20, ln20, lx20, lt21, ln21, lx21, lt22, ln22, lx22, lt23, ln23, lx23, lt24, ln24, lx24, la0, la1, la2, la3, la4, la5, la6, la7, la8, la9, la10, la11, la12, lb0, lb1, lb2, lb3, lb4, lb5, lb6, lb7, lb8, lb9, lb10, lb11, lb12, lt60, lt400, lt900, ltm1, ltm2, ltm4, ltm10000, lt10000, lt1000000, ltm1000000, lt10000000, lt2000, lt100000, Int.toNat_natCast, i1ne0, i0eq0, Int.reduceLT, Int.reduceLE, Int.reduceToNat, Int.reduceNeg, not_true, not_false_iff, false_imp_iff, true_imp_iff, imp_self, implies_true, Option.isSome_some, Bool.false_eq_true, r0', c3, t1, d3, hB, e9, l8a, l8b, l8c, l8d, x_upA hM, Nat.reduceEqDiff, ne1000, not_false_eq_true, apre_some d3' (show S.2.2.2.2.1.1.length < 900 by omega) (by decide), nI_nat (show S.2.2.2.2.1.1.length < 2 ^ 31 by omega)]
    refine tl _ (fun _ => 0) (frc_up (frc_up frc_rf (by simp)) (by simp)) ?_ ?_
    · simp [x_upA hM]
    · simp [x_upA hM]; rfl
  · rw [ln_2] at tl ⊢
    simp only [eX8_putInsert_236, eX8_putInsert_237, eX8_putInsert_240, eX8_putInsert_241, eX8_putInsert_244, eX8_putInsert_246, eX8_putInsert_247, eX8_putInsert_248, eX8_putInsert_249, eX8_putInsert_252, eX8_putInsert_254, eX8_putInsert_255, eX8_putInsert_256, eX8_putInsert_257, eX8_putInsert_258, eX8_putInsert_260, eX8_putInsert_261, eX8_putInsert_262, eX8_putInsert_263, eX8_putInsert_266, eX8_putInsert_267, eX8_putInsert_268, eX8_putInsert_269, eX8_putInsert_271, eX8_putInsert_272, eX8_putInsert_275, eX8_putInsert_276, eX8_putInsert_277, eX8_putInsert_278, eX8_putInsert_279, eX8_putInsert_282, eX8_putInsert_283, eX8_putInsert_284, eX8_putInsert_285, List.getElem?_cons_zero, List.getElem?_cons_succ, Option.some.injEq, Value.int.injEq, Value.long.injEq, Value.ref.injEq, reduceCtorEq, exists_eq_left', exists_eq_left, exists_and_left, exists_and_right, and_assoc, and_true, true_and, true_or, or_true, x_rfv_ref, x_rfv_null, Prod.mk.injEq, List.set_cons_zero, List.set_cons_succ, List.length_cons, List.length_nil, Value.category, x_nl0, x_nl1, x_nl2, x_nl3, x_nl4, x_nl5, x_nl6, x_nl7, x_nl8, x_nl9, x_nl10, x_nl11, x_nl12, List.map_nil, List.map_cons, List.sum_nil, List.sum_cons, Option.toList_some, Option.toList_none, List.nil_append, List.cons_append, xl_lt, xl_gt, xl_eq, ↓reduceIte, Nat.reduceLT, Nat.reduceAdd, Nat.reduceLeDiff, x_up_self, x_uu, lt0, ln0, lx0, lt1, ln1, lx1, lt2, ln2, lx2, lt3, ln3, lx3, lt4, ln4, lx4, lt5, ln5, lx5, lt6, ln6, lx6, lt7, ln7, lx7, lt8, ln8, lx8, lt9, ln9, lx9, lt10, ln10, lx10, lt11, ln11, lx11, lt12, ln12, lx12, lt13, ln13, lx13, lt14, ln14, lx14, lt15, ln15, lx15, lt16, ln16, lx16, lt17, ln17, lx17, lt18, ln18, lx18, lt19, ln19, lx19, lt20, ln20, lx20, lt21, ln21, lx21, lt22, ln22, lx22, lt23, ln23, lx23, lt24, ln24, lx24, la0, la1, la2, la3, la4, la5, la6, la7, la8, la9, la10, la11, la12, lb0, lb1, lb2, lb3, lb4, lb5, lb6, lb7, lb8, lb9, lb10, lb11, lb12, lt60, lt400, lt900, ltm1, ltm2, ltm4, ltm10000, lt10000, lt1000000, ltm1000000, lt10000000, lt2000, lt100000, Int.toNat_natCast, i1ne0, i0eq0, Int.reduceLT, Int.reduceLE, Int.reduceToNat, Int.reduceNeg, not_true, not_false_iff, false_imp_iff, true_imp_iff, imp_self, implies_true, Option.isSome_some, Bool.false_eq_true, r0', c3, t1, d3, hB, e9, l8a, l8b, l8c, l8d, x_upA hM, Nat.reduceEqDiff, ne1000, not_false_eq_true, apre_some d3' (show S.2.2.2.2.1.1.length < 900 by omega) (by decide), nI_nat (show S.2.2.2.2.1.1.length < 2 ^ 31 by omega)]
    refine tl _ (fun _ => 0) (frc_up (frc_up frc_rf (by simp)) (by simp)) ?_ ?_
    · simp [x_upA hM]
    · simp [x_upA hM]; rfl
  · rw [ln_3] at tl ⊢
    simp only [eX8_putInsert_236, eX8_putInsert_237, eX8_putInsert_240, eX8_putInsert_241, eX8_putInsert_244, eX8_putInsert_246, eX8_putInsert_247, eX8_putInsert_248, eX8_putInsert_249, eX8_putInsert_252, eX8_putInsert_254, eX8_putInsert_255, eX8_putInsert_256, eX8_putInsert_257, eX8_putInsert_258, eX8_putInsert_260, eX8_putInsert_261, eX8_putInsert_262, eX8_putInsert_263, eX8_putInsert_266, eX8_putInsert_267, eX8_putInsert_268, eX8_putInsert_269, eX8_putInsert_271, eX8_putInsert_272, eX8_putInsert_275, eX8_putInsert_276, eX8_putInsert_277, eX8_putInsert_278, eX8_putInsert_279, eX8_putInsert_282, eX8_putInsert_283, eX8_putInsert_284, eX8_putInsert_285, List.getElem?_cons_zero, List.getElem?_cons_succ, Option.some.injEq, Value.int.injEq, Value.long.injEq, Value.ref.injEq, reduceCtorEq, exists_eq_left', exists_eq_left, exists_and_left, exists_and_right, and_assoc, and_true, true_and, true_or, or_true, x_rfv_ref, x_rfv_null, Prod.mk.injEq, List.set_cons_zero, List.set_cons_succ, List.length_cons, List.length_nil, Value.category, x_nl0, x_nl1, x_nl2, x_nl3, x_nl4, x_nl5, x_nl6, x_nl7, x_nl8, x_nl9, x_nl10, x_nl11, x_nl12, List.map_nil, List.map_cons, List.sum_nil, List.sum_cons, Option.toList_some, Option.toList_none, List.nil_append, List.cons_append, xl_lt, xl_gt, xl_eq, ↓reduceIte, Nat.reduceLT, Nat.reduceAdd, Nat.reduceLeDiff, x_up_self, x_uu, lt0, ln0, lx0, lt1, ln1, lx1, lt2, ln2, lx2, lt3, ln3, lx3, lt4, ln4, lx4, lt5, ln5, lx5, lt6, ln6, lx6, lt7, ln7, lx7, lt8, ln8, lx8, lt9, ln9, lx9, lt10, ln10, lx10, lt11, ln11, lx11, lt12, ln12, lx12, lt13, ln13, lx13, lt14, ln14, lx14, lt15, ln15, lx15, lt16, ln16, lx16, lt17, ln17, lx17, lt18, ln18, lx18, lt19, ln19, lx19, lt20, ln20, lx20, lt21, ln21, lx21, lt22, ln22, lx22, lt23, ln23, lx23, lt24, ln24, lx24, la0, la1, la2, la3, la4, la5, la6, la7, la8, la9, la10, la11, la12, lb0, lb1, lb2, lb3, lb4, lb5, lb6, lb7, lb8, lb9, lb10, lb11, lb12, lt60, lt400, lt900, ltm1, ltm2, ltm4, ltm10000, lt10000, lt1000000, ltm1000000, lt10000000, lt2000, lt100000, Int.toNat_natCast, i1ne0, i0eq0, Int.reduceLT, Int.reduceLE, Int.reduceToNat, Int.reduceNeg, not_true, not_false_iff, false_imp_iff, true_imp_iff, imp_self, implies_true, Option.isSome_some, Bool.false_eq_true, r0', c3, t1, d3, hB, e9, l8a, l8b, l8c, l8d, x_upA hM, Nat.reduceEqDiff, ne1000, not_false_eq_true, apre_some d3' (show S.2.2.2.2.1.1.length < 900 by omega) (by decide), nI_nat (show S.2.2.2.2.1.1.length < 2 ^ 31 by omega)]
    refine tl _ (fun _ => 0) (frc_up (frc_up frc_rf (by simp)) (by simp)) ?_ ?_
    · simp [x_upA hM]
    · simp [x_upA hM]; rfl
