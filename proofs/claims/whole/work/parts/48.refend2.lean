/-! THE REFERENCE: end, loops four and three -/
theorem en4 {B : Nat} {ad M : Nat → Nat} {K : xK} {fs : List Value} {L : List Nat} {lf : Nat → Int32} {x1 x3 x4 : Int32} (hM : ainj M) (hB : ∀ c, B ≤ M c) (h15 : fs[15]? = some (.int (nI L.length))) (h16 : fs[16]? = some (.ref (M 16))) (h17 : fs[17]? = some (.ref (M 17))) (h43 : fs[43]? = some (.ref (M 43))) (h44 : fs[44]? = some (.ref (M 44))) : ∀ d k, d + k = L.length → ∀ (σ : xW) (A : List (Nat × Int32)), σ.1 (M 0) = some (8, fs) → agn σ.1 M A → A.length + d ≤ 900 → aw σ.1 M 16 100 900 L.length (fun j => .int (nI (L.getD j 0))) → aw σ.1 M 17 100 900 L.length (fun j => .int (lf (L.getD j 0))) →
    (∀ w', agn w' M (A ++ (L.drop k).map (fun i => (i, lf i))) → frc M [43, 44] σ.1 w' → wX8_end B ad K 486 [.ref (M 0), .int x1, .int (nI (A.length + d)), .int x3, .int x4, .int (nI L.length)] [] (w', σ.2)) → wX8_end B ad K 442 [.ref (M 0), .int x1, .int (nI A.length), .int x3, .int x4, .int (nI k)] [] σ := by
  intro d
  induction d with
  | zero =>
    intro k hk σ A h0 ha hA g16 g17 h
    have : k = L.length := by omega
    subst this
    have hn : L.length ≤ 900 := by obtain ⟨V, -, g2⟩ := g16; exact apre_n g2
    rw [eX8_end_442]
    simp only [eX8_end_444, eX8_end_445, eX8_end_448, eX8_end_451, eX8_end_452, eX8_end_455, eX8_end_456, eX8_end_457, eX8_end_460, eX8_end_462, eX8_end_463, eX8_end_464, eX8_end_465, eX8_end_468, eX8_end_469, eX8_end_470, eX8_end_473, eX8_end_475, eX8_end_476, eX8_end_477, eX8_end_480, eX8_end_483, List.getElem?_cons_zero, List.getElem?_cons_succ, Option.some.injEq, Value.int.injEq, Value.long.injEq, Value.ref.injEq, reduceCtorEq, exists_eq_left', exists_eq_left, exists_and_left, exists_and_right, and_assoc, and_true, true_and, true_or, or_true, x_rfv_ref, x_rfv_null, Prod.mk.injEq, List.set_cons_zero, List.set_cons_succ, List.length_cons, List.length_nil, Value.category, x_nl0, x_nl1, x_nl2, x_nl3, x_nl4, x_nl5, x_nl6, x_nl7, x_nl8, x_nl9, x_nl10, x_nl11, x_nl12, List.map_nil, List.map_cons, List.sum_nil, List.sum_cons, Option.toList_some, Option.toList_none, List.nil_append, List.cons_append, xl_lt, xl_gt, xl_eq, ↓reduceIte, Nat.reduceLT, Nat.reduceAdd, Nat.reduceLeDiff, x_up_self, x_uu, lt0, ln0, lx0, lt1, ln1, lx1, lt2, ln2, lx2, lt3, ln3, lx3, lt4, ln4, lx4, lt5, ln5, lx5, lt6, ln6, lx6, lt7, ln7, lx7, lt8, ln8, lx8, lt9, ln9, lx9, lt10, ln10, lx10, lt11, ln11, lx11, lt12, ln12, lx12, lt13, ln13, lx13, lt14, ln14, lx14, lt15, ln15, lx15, lt16, ln16, lx16, lt17, ln17, lx17, lt18, ln18, lx18, lt19, ln19, lx19, lt20, ln20, lx20, lt21, ln21, lx21, lt22, ln22, lx22, lt23, ln23, lx23, lt24, ln24, lx24, la0, la1, la2, la3, la4, la5, la6, la7, la8, la9, la10, la11, la12, lb0, lb1, lb2, lb3, lb4, lb5, lb6, lb7, lb8, lb9, lb10, lb11, lb12, lt60, lt400, lt900, ltm1, ltm2, ltm4, ltm10000, lt10000, lt1000000, ltm1000000, lt10000000, lt2000, lt100000, Int.toNat_natCast, i1ne0, i0eq0, Int.reduceLT, Int.reduceLE, Int.reduceToNat, Int.reduceNeg, not_true, not_false_iff, false_imp_iff, true_imp_iff, imp_self, implies_true, Option.isSome_some, Bool.false_eq_true, h0, h15, nI_k (show L.length < 2147483648 by omega)]
    rw [if_neg (by omega)]
    exact h σ.1 (by simpa using ha) frc_rf
  | succ d ih =>
    intro k hk σ A h0 ha hA g16 g17 h
    obtain ⟨⟨V, v1, v2⟩, ⟨W, w1, w2⟩⟩ := id ha
    obtain ⟨X, p1, p2⟩ := id g16
    obtain ⟨Y, y1, y2⟩ := id g17
    have hn : L.length ≤ 900 := apre_n p2
    have e1 : x_ix (nI k) X = some (.int (nI (L.getD k 0))) := apre_ix p2 (show k < L.length by omega) (by omega)
    have e2 : x_ix (nI k) Y = some (.int (lf (L.getD k 0))) := apre_ix y2 (show k < L.length by omega) (by omega)
    rw [eX8_end_442]
    simp only [eX8_end_444, eX8_end_445, eX8_end_448, eX8_end_451, eX8_end_452, eX8_end_455, eX8_end_456, eX8_end_457, eX8_end_460, eX8_end_462, eX8_end_463, eX8_end_464, eX8_end_465, eX8_end_468, eX8_end_469, eX8_end_470, eX8_end_473, eX8_end_475, eX8_end_476, eX8_end_477, eX8_end_480, eX8_end_483, List.getElem?_cons_zero, List.getElem?_cons_succ, Option.some.injEq, Value.int.injEq, Value.long.injEq, Value.ref.injEq, reduceCtorEq, exists_eq_left', exists_eq_left, exists_and_left, exists_and_right, and_assoc, and_true, true_and, true_or, or_true, x_rfv_ref, x_rfv_null, Prod.mk.injEq, List.set_cons_zero, List.set_cons_succ, List.length_cons, List.length_nil, Value.category, x_nl0, x_nl1, x_nl2, x_nl3, x_nl4, x_nl5, x_nl6, x_nl7, x_nl8, x_nl9, x_nl10, x_nl11, x_nl12, List.map_nil, List.map_cons, List.sum_nil, List.sum_cons, Option.toList_some, Option.toList_none, List.nil_append, List.cons_append, xl_lt, xl_gt, xl_eq, ↓reduceIte, Nat.reduceLT, Nat.reduceAdd, Nat.reduceLeDiff, x_up_self, x_uu, lt0, ln0, lx0, lt1, ln1, lx1, lt2, ln2, lx2, lt3, ln3, lx3, lt4, ln4, lx4, lt5, ln5, lx5, lt6, ln6, lx6, lt7, ln7, lx7, lt8, ln8, lx8, lt9, ln9, lx9, lt10, ln10, lx10, lt11, ln11, lx11, lt12, ln12, lx12, lt13, ln13, lx13, lt14, ln14, lx14, lt15, ln15, lx15, lt16, ln16, lx16, lt17, ln17, lx17, lt18, ln18, lx18, lt19, ln19, lx19, lt20, ln20, lx20, lt21, ln21, lx21, lt22, ln22, lx22, lt23, ln23, lx23, lt24, ln24, lx24, la0, la1, la2, la3, la4, la5, la6, la7, la8, la9, la10, la11, la12, lb0, lb1, lb2, lb3, lb4, lb5, lb6, lb7, lb8, lb9, lb10, lb11, lb12, lt60, lt400, lt900, ltm1, ltm2, ltm4, ltm10000, lt10000, lt1000000, ltm1000000, lt10000000, lt2000, lt100000, Int.toNat_natCast, i1ne0, i0eq0, Int.reduceLT, Int.reduceLE, Int.reduceToNat, Int.reduceNeg, not_true, not_false_iff, false_imp_iff, true_imp_iff, imp_self, implies_true, Option.isSome_some, Bool.false_eq_true, h0, h15, h16, h17, h43, h44, v1, w1, p1, y1, hB, e1, e2, x_upA hM, Nat.reduceEqDiff, nI_k (show L.length < 2147483648 by omega), nI_k (show k < 2147483648 by omega), nI_nat (show A.length < 2 ^ 31 by omega), nI_1, apre_some v2 (show A.length < 900 by omega) (by decide), apre_some w2 (show A.length < 900 by omega) (by decide)]
    rw [if_pos (by omega)]
    have hf : ∀ a b, frc M [43, 44] σ.1 (x_up (x_up σ.1 (M 43) a) (M 44) b) := fun a b => frc_up (frc_up frc_rf (by simp)) (by simp)
    rw [show A.length + 1 = (A ++ [(L.getD k 0, lf (L.getD k 0))]).length from a_len.symm]
    refine ih (k + 1) (by omega) _ (A ++ [(L.getD k 0, lf (L.getD k 0))]) ?_ ?_ ?_ ?_ ?_ ?_
    · simp [x_upA hM, h0]
    · exact agn_push v2 w2 (by omega) ((x_upA hM _ _ _ _).trans ((if_neg (by decide)).trans (x_up_self _ _ _))) (x_up_self _ _ _)
    · rw [a_len]; omega
    · exact aw_frc hM (hf _ _) (by decide) g16
    · exact aw_frc hM (hf _ _) (by decide) g17
    · intro w' k1 k2
      have e : A ++ [(L.getD k 0, lf (L.getD k 0))] ++ (L.drop (k + 1)).map (fun i => (i, lf i)) = A ++ (L.drop k).map (fun i => (i, lf i)) := by
        rw [List.drop_eq_getElem_cons (show k < L.length by omega), List.map_cons, List.append_assoc]
        simp [List.getD, List.getElem?_eq_getElem (show k < L.length by omega)]
      rw [e] at k1
      have := h w' k1 (frc_tr (hf _ _) k2 (fun c hc => hc))
      rw [a_len]
      rw [show A.length + 1 + d = A.length + (d + 1) by omega]
      exact this
theorem en3 {B : Nat} {ad M : Nat → Nat} {K : xK} {fs : List Value} {l : List (Nat × Int32 × Bool)} {lf : Nat → Int32} {b : Nat} {x1 x3 : Int32} {V2 : List Value} (hM : ainj M) (hB : ∀ c, B ≤ M c) (hb : b < 2147483648) (h18 : fs[18]? = some (.int (nI l.length))) (h19 : fs[19]? = some (.ref (M 19))) (h20 : fs[20]? = some (.ref (M 20))) (h31 : fs[31]? = some (.int (nI b))) (h43 : fs[43]? = some (.ref (M 43))) (h44 : fs[44]? = some (.ref (M 44))) : ∀ d k, d + k = l.length → b < k → ∀ (σ : xW) (A : List (Nat × Int32)), σ.1 (M 0) = some (8, fs) → agn σ.1 M A → A.length + d ≤ 900 → aw σ.1 M 19 100 900 l.length (fun j => .int (nI (on_i l j))) → aw σ.1 M 20 100 900 l.length (fun j => .int (lf (on_i l j))) →
    (∀ w', agn w' M (A ++ (l.drop k).map (fun q => (q.1, lf q.1))) → frc M [43, 44] σ.1 w' → wX8_end B ad K 405 [.ref (M 0), .int x1, .int (nI (A.length + d)), .int x3, .int (nI l.length), .retAddr 0] [] (w', σ.2)) → wX8_end B ad K 331 [.ref (M 0), .int x1, .int (nI A.length), .int x3, .int (nI k), .retAddr 0] [] σ := by
  intro d
  induction d with
  | zero =>
    intro k hk hbk σ A h0 ha hA g19 g20 h
    have : k = l.length := by omega
    subst this
    have hn : l.length ≤ 900 := by obtain ⟨V, -, g2⟩ := g19; exact apre_n g2
    rw [eX8_end_331]
    simp only [eX8_end_333, eX8_end_334, eX8_end_337, eX8_end_340, eX8_end_341, eX8_end_344, eX8_end_345, eX8_end_346, eX8_end_349, eX8_end_351, eX8_end_352, eX8_end_353, eX8_end_354, eX8_end_357, eX8_end_358, eX8_end_359, eX8_end_362, eX8_end_364, eX8_end_365, eX8_end_366, eX8_end_367, eX8_end_369, eX8_end_370, eX8_end_373, eX8_end_376, eX8_end_377, eX8_end_380, eX8_end_381, eX8_end_384, eX8_end_386, eX8_end_387, eX8_end_388, eX8_end_389, eX8_end_392, eX8_end_393, eX8_end_396, eX8_end_397, eX8_end_398, eX8_end_399, eX8_end_402, List.getElem?_cons_zero, List.getElem?_cons_succ, Option.some.injEq, Value.int.injEq, Value.long.injEq, Value.ref.injEq, reduceCtorEq, exists_eq_left', exists_eq_left, exists_and_left, exists_and_right, and_assoc, and_true, true_and, true_or, or_true, x_rfv_ref, x_rfv_null, Prod.mk.injEq, List.set_cons_zero, List.set_cons_succ, List.length_cons, List.length_nil, Value.category, x_nl0, x_nl1, x_nl2, x_nl3, x_nl4, x_nl5, x_nl6, x_nl7, x_nl8, x_nl9, x_nl10, x_nl11, x_nl12, List.map_nil, List.map_cons, List.sum_nil, List.sum_cons, Option.toList_some, Option.toList_none, List.nil_append, List.cons_append, xl_lt, xl_gt, xl_eq, ↓reduceIte, Nat.reduceLT, Nat.reduceAdd, Nat.reduceLeDiff, x_up_self, x_uu, lt0, ln0, lx0, lt1, ln1, lx1, lt2, ln2, lx2, lt3, ln3, lx3, lt4, ln4, lx4, lt5, ln5, lx5, lt6, ln6, lx6, lt7, ln7, lx7, lt8, ln8, lx8, lt9, ln9, lx9, lt10, ln10, lx10, lt11, ln11, lx11, lt12, ln12, lx12, lt13, ln13, lx13, lt14, ln14, lx14, lt15, ln15, lx15, lt16, ln16, lx16, lt17, ln17, lx17, lt18, ln18, lx18, lt19, ln19, lx19, lt20, ln20, lx20, lt21, ln21, lx21, lt22, ln22, lx22, lt23, ln23, lx23, lt24, ln24, lx24, la0, la1, la2, la3, la4, la5, la6, la7, la8, la9, la10, la11, la12, lb0, lb1, lb2, lb3, lb4, lb5, lb6, lb7, lb8, lb9, lb10, lb11, lb12, lt60, lt400, lt900, ltm1, ltm2, ltm4, ltm10000, lt10000, lt1000000, ltm1000000, lt10000000, lt2000, lt100000, Int.toNat_natCast, i1ne0, i0eq0, Int.reduceLT, Int.reduceLE, Int.reduceToNat, Int.reduceNeg, not_true, not_false_iff, false_imp_iff, true_imp_iff, imp_self, implies_true, Option.isSome_some, Bool.false_eq_true, h0, h18, nI_k (show l.length < 2147483648 by omega)]
    rw [if_neg (by omega)]
    exact h σ.1 (by simpa using ha) frc_rf
  | succ d ih =>
    intro k hk hbk σ A h0 ha hA g19 g20 h
    obtain ⟨⟨V, v1, v2⟩, ⟨W, w1, w2⟩⟩ := id ha
    obtain ⟨X, p1, p2⟩ := id g19
    obtain ⟨Y, y1, y2⟩ := id g20
    have hn : l.length ≤ 900 := apre_n p2
    have e1 : x_ix (nI k) X = some (.int (nI (on_i l k))) := apre_ix p2 (show k < l.length by omega) (by omega)
    have e2 : x_ix (nI k) Y = some (.int (lf (on_i l k))) := apre_ix y2 (show k < l.length by omega) (by omega)
    have e3 : ¬ nI k = nI b := fun e => by have := (nI_eq (show k < 2147483648 by omega) hb).mp e; omega
    rw [eX8_end_331]
    simp only [eX8_end_333, eX8_end_334, eX8_end_337, eX8_end_340, eX8_end_341, eX8_end_344, eX8_end_345, eX8_end_346, eX8_end_349, eX8_end_351, eX8_end_352, eX8_end_353, eX8_end_354, eX8_end_357, eX8_end_358, eX8_end_359, eX8_end_362, eX8_end_364, eX8_end_365, eX8_end_366, eX8_end_367, eX8_end_369, eX8_end_370, eX8_end_373, eX8_end_376, eX8_end_377, eX8_end_380, eX8_end_381, eX8_end_384, eX8_end_386, eX8_end_387, eX8_end_388, eX8_end_389, eX8_end_392, eX8_end_393, eX8_end_396, eX8_end_397, eX8_end_398, eX8_end_399, eX8_end_402, List.getElem?_cons_zero, List.getElem?_cons_succ, Option.some.injEq, Value.int.injEq, Value.long.injEq, Value.ref.injEq, reduceCtorEq, exists_eq_left', exists_eq_left, exists_and_left, exists_and_right, and_assoc, and_true, true_and, true_or, or_true, x_rfv_ref, x_rfv_null, Prod.mk.injEq, List.set_cons_zero, List.set_cons_succ, List.length_cons, List.length_nil, Value.category, x_nl0, x_nl1, x_nl2, x_nl3, x_nl4, x_nl5, x_nl6, x_nl7, x_nl8, x_nl9, x_nl10, x_nl11, x_nl12, List.map_nil, List.map_cons, List.sum_nil, List.sum_cons, Option.toList_some, Option.toList_none, List.nil_append, List.cons_append, xl_lt, xl_gt, xl_eq, ↓reduceIte, Nat.reduceLT, Nat.reduceAdd, Nat.reduceLeDiff, x_up_self, x_uu, lt0, ln0, lx0, lt1, ln1, lx1, lt2, ln2, lx2, lt3, ln3, lx3, lt4, ln4, lx4, lt5, ln5, lx5, lt6, ln6, lx6, lt7, ln7, lx7, lt8, ln8, lx8, lt9, ln9, lx9, lt10, ln10, lx10, lt11, ln11, lx11, lt12, ln12, lx12, lt13, ln13, lx13, lt14, ln14, lx14, lt15, ln15, lx15, lt16, ln16, lx16, lt17, ln17, lx17, lt18, ln18, lx18, lt19, ln19, lx19, lt20, ln20, lx20, lt21, ln21, lx21, lt22, ln22, lx22, lt23, ln23, lx23, lt24, ln24, lx24, la0, la1, la2, la3, la4, la5, la6, la7, la8, la9, la10, la11, la12, lb0, lb1, lb2, lb3, lb4, lb5, lb6, lb7, lb8, lb9, lb10, lb11, lb12, lt60, lt400, lt900, ltm1, ltm2, ltm4, ltm10000, lt10000, lt1000000, ltm1000000, lt10000000, lt2000, lt100000, Int.toNat_natCast, i1ne0, i0eq0, Int.reduceLT, Int.reduceLE, Int.reduceToNat, Int.reduceNeg, not_true, not_false_iff, false_imp_iff, true_imp_iff, imp_self, implies_true, Option.isSome_some, Bool.false_eq_true, h0, h18, h19, h20, h31, h43, h44, v1, w1, p1, y1, hB, e1, e2, e3, x_upA hM, Nat.reduceEqDiff, nI_k (show l.length < 2147483648 by omega), nI_k (show k < 2147483648 by omega), nI_nat (show A.length < 2 ^ 31 by omega), nI_1, apre_some v2 (show A.length < 900 by omega) (by decide), apre_some w2 (show A.length < 900 by omega) (by decide)]
    rw [if_pos (by omega)]
    have hf : ∀ a b, frc M [43, 44] σ.1 (x_up (x_up σ.1 (M 43) a) (M 44) b) := fun a b => frc_up (frc_up frc_rf (by simp)) (by simp)
    rw [show A.length + 1 = (A ++ [(on_i l k, lf (on_i l k))]).length from a_len.symm]
    refine ih (k + 1) (by omega) (by omega) _ (A ++ [(on_i l k, lf (on_i l k))]) ?_ ?_ ?_ ?_ ?_ ?_
    · simp [x_upA hM, h0]
    · exact agn_push v2 w2 (by omega) ((x_upA hM _ _ _ _).trans ((if_neg (by decide)).trans (x_up_self _ _ _))) (x_up_self _ _ _)
    · rw [a_len]; omega
    · exact aw_frc hM (hf _ _) (by decide) g19
    · exact aw_frc hM (hf _ _) (by decide) g20
    · intro w' k1 k2
      have e : A ++ [(on_i l k, lf (on_i l k))] ++ (l.drop (k + 1)).map (fun q => (q.1, lf q.1)) = A ++ (l.drop k).map (fun q => (q.1, lf q.1)) := by
        rw [List.drop_eq_getElem_cons (show k < l.length by omega), List.map_cons, List.append_assoc]
        simp [on_i, List.getD, List.getElem?_eq_getElem (show k < l.length by omega)]
      rw [e] at k1
      have := h w' k1 (frc_tr (hf _ _) k2 (fun c hc => hc))
      rw [a_len]
      rw [show A.length + 1 + d = A.length + (d + 1) by omega]
      exact this
