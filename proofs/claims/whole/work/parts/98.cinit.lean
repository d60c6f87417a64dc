/-! THE CLASS: its constructor -/
set_option maxRecDepth 20000 in
theorem s_initD {B : Nat} {ad A : Nat → Nat} {K : xK} {w : xM} {sl : Nat} (hA : ainj A) (hB : ∀ c, B ≤ A c) (hs : ∀ c, 7 ≤ c → c ≤ 15 → A c + 1 = A (c + 1)) (h6 : w (A 6) = some (1, [.null, .null, .int 0, .int 0, .long 0, .long 0, .null, .null, .null, .long 0, .long 0, .int 0, .int 0, .null])) (h : ∀ w', drc w' A 0 0 0 0 0 0 0 0 (List.replicate 400 .null) (List.replicate 400 (.int 0)) (fun _ => 0) (fun _ => 0) (fun _ => 0) (fun _ => 0) → frm A 6 16 w w' → K none (w', A 16 + 1, sl + 836)) : x_cl (eX0_init B ad) [.ref (A 6)] (w, A 7, sl) K := by
  have s7 : A 7 + 1 = A 8 := hs 7 (by decide) (by decide)
  have s8 : A 8 + 1 = A 9 := hs 8 (by decide) (by decide)
  have s9 : A 9 + 1 = A 10 := hs 9 (by decide) (by decide)
  have s10 : A 10 + 1 = A 11 := hs 10 (by decide) (by decide)
  have s11 : A 11 + 1 = A 12 := hs 11 (by decide) (by decide)
  have s12 : A 12 + 1 = A 13 := hs 12 (by decide) (by decide)
  have s13 : A 13 + 1 = A 14 := hs 13 (by decide) (by decide)
  have s14 : A 14 + 1 = A 15 := hs 14 (by decide) (by decide)
  have s15 : A 15 + 1 = A 16 := hs 15 (by decide) (by decide)
  have u : ∀ (w : xM) e c, c ≠ 6 → x_up w (A c) e (A 6) = w (A 6) := fun w e c hc => x_up_ne _ _ (ainj_ne hA (Ne.symm hc))
  refine x_ev_of (by simp [x_sl, Value.category]) ?_
  show wX0_init B ad K 0 [.ref (A 6)] [] (w, A 7, sl)
  simp only [eX0_init_0, eX0_init_1, eX0_init_4, eX0_init_5, eX0_init_8, eX0_init_11, eX0_init_14, eX0_init_15, eX0_init_18, eX0_init_20, eX0_init_23, eX0_init_24, eX0_init_27, eX0_init_28, List.getElem?_cons_zero, List.getElem?_cons_succ, Option.some.injEq, Value.int.injEq, Value.long.injEq, Value.ref.injEq, reduceCtorEq, exists_eq_left', exists_eq_left, exists_and_left, exists_and_right, and_assoc, and_true, true_and, true_or, or_true, x_rfv_ref, x_rfv_null, Prod.mk.injEq, List.set_cons_zero, List.set_cons_succ, List.length_cons, List.length_nil, Value.category, x_nl0, x_nl1, x_nl2, x_nl3, x_nl4, x_nl5, x_nl6, x_nl7, x_nl8, x_nl9, x_nl10, x_nl11, x_nl12, List.map_nil, List.map_cons, List.sum_nil, List.sum_cons, Option.toList_some, Option.toList_none, List.nil_append, List.cons_append, xl_lt, xl_gt, xl_eq, ↓reduceIte, Nat.reduceLT, Nat.reduceAdd, Nat.reduceLeDiff, x_up_self, x_uu, lt0, ln0, lx0, lt1, ln1, lx1, lt2, ln2, lx2, lt3, ln3, lx3, lt4, ln4, lx4, lt5, ln5, lx5, lt6, ln6, lx6, lt7, ln7, lx7, lt8, ln8, lx8, lt9, ln9, lx9, lt10, ln10, lx10, lt11, ln11, lx11, lt12, ln12, lx12, lt13, ln13, lx13, lt14, ln14, lx14, lt15, ln15, lx15, lt16, ln16, lx16, lt17, ln17, lx17, lt18, ln18, lx18, lt19, ln19, lx19, lt20, ln20, lx20, lt21, ln21, lx21, lt22, ln22, lx22, lt23, ln23, lx23, lt24, ln24, lx24, la0, la1, la2, la3, la4, la5, la6, la7, la8, la9, la10, la11, la12, lb0, lb1, lb2, lb3, lb4, lb5, lb6, lb7, lb8, lb9, lb10, lb11, lb12, lt60, lt400, lt900, ltm1, ltm2, ltm4, ltm10000, lt10000, lt1000000, ltm1000000, lt10000000, lt2000, lt100000, Int.toNat_natCast, i1ne0, i0eq0, Int.reduceLT, Int.reduceLE, Int.reduceToNat, Int.reduceNeg, not_true, not_false_iff, false_imp_iff, true_imp_iff, imp_self, implies_true, Option.isSome_some, Bool.false_eq_true, x_clo, x_cl1, s7, s8, s9, h6, hB 6, u _ _ 7 (by decide), u _ _ 8 (by decide)]
  refine s_initMs (x0 := 0) (x1 := 0) (x2 := 0) (x3 := 0) (x4 := .null) (x5 := .null) (by omega) (hB _) (x_up_self _ _ _) ?_
  rw [s10, s11]
  have gen : ∀ w1 : xM, frm A 6 16 w w1 → w1 (A 6) = some (1, [.ref (A 7), .ref (A 8), .int 0, .int 0, .long 0, .long 0, .null, .null, .null, .long 0, .long 0, .int 0, .int 0, .null]) → w1 (A 7) = some (103, List.replicate 400 .null) → w1 (A 8) = some (100, List.replicate 400 (.int 0)) → msr w1 (A 9) (A 10) (A 11) (fun _ => 0) → wX0_init B ad K 31 [.ref (A 6)] [.ref (A 9), .ref (A 6)] (w1, A 12, sl + 400 + 400 + 6 + 4 + 4) := by
    intro w1 kf k6 k7 k8 km
    simp only [eX0_init_31, eX0_init_34, eX0_init_35, eX0_init_36, eX0_init_38, eX0_init_41, eX0_init_42, eX0_init_43, eX0_init_45, eX0_init_48, eX0_init_49, eX0_init_52, eX0_init_53, List.getElem?_cons_zero, List.getElem?_cons_succ, Option.some.injEq, Value.int.injEq, Value.long.injEq, Value.ref.injEq, reduceCtorEq, exists_eq_left', exists_eq_left, exists_and_left, exists_and_right, and_assoc, and_true, true_and, true_or, or_true, x_rfv_ref, x_rfv_null, Prod.mk.injEq, List.set_cons_zero, List.set_cons_succ, List.length_cons, List.length_nil, Value.category, x_nl0, x_nl1, x_nl2, x_nl3, x_nl4, x_nl5, x_nl6, x_nl7, x_nl8, x_nl9, x_nl10, x_nl11, x_nl12, List.map_nil, List.map_cons, List.sum_nil, List.sum_cons, Option.toList_some, Option.toList_none, List.nil_append, List.cons_append, xl_lt, xl_gt, xl_eq, ↓reduceIte, Nat.reduceLT, Nat.reduceAdd, Nat.reduceLeDiff, x_up_self, x_uu, lt0, ln0, lx0, lt1, ln1, lx1, lt2, ln2, lx2, lt3, ln3, lx3, lt4, ln4, lx4, lt5, ln5, lx5, lt6, ln6, lx6, lt7, ln7, lx7, lt8, ln8, lx8, lt9, ln9, lx9, lt10, ln10, lx10, lt11, ln11, lx11, lt12, ln12, lx12, lt13, ln13, lx13, lt14, ln14, lx14, lt15, ln15, lx15, lt16, ln16, lx16, lt17, ln17, lx17, lt18, ln18, lx18, lt19, ln19, lx19, lt20, ln20, lx20, lt21, ln21, lx21, lt22, ln22, lx22, lt23, ln23, lx23, lt24, ln24, lx24, la0, la1, la2, la3, la4, la5, la6, la7, la8, la9, la10, la11, la12, lb0, lb1, lb2, lb3, lb4, lb5, lb6, lb7, lb8, lb9, lb10, lb11, lb12, lt60, lt400, lt900, ltm1, ltm2, ltm4, ltm10000, lt10000, lt1000000, ltm1000000, lt10000000, lt2000, lt100000, Int.toNat_natCast, i1ne0, i0eq0, Int.reduceLT, Int.reduceLE, Int.reduceToNat, Int.reduceNeg, not_true, not_false_iff, false_imp_iff, true_imp_iff, imp_self, implies_true, Option.isSome_some, Bool.false_eq_true, x_cl1, s12, s13, s14, k6, hB 6, u _ _ 12 (by decide), u _ _ 13 (by decide)]
    refine s_initMs (x0 := 0) (x1 := 0) (x2 := 0) (x3 := 0) (x4 := .null) (x5 := .null) (by omega) (hB _) (x_up_self _ _ _) ?_
    rw [s15]
    have gen2 : ∀ w2 : xM, frm A 6 16 w w2 → w2 (A 6) = some (1, [.ref (A 7), .ref (A 8), .int 0, .int 0, .long 0, .long 0, .ref (A 9), .ref (A 12), .ref (A 13), .long 0, .long 0, .int 0, .int 0, .null]) → w2 (A 7) = some (103, List.replicate 400 .null) → w2 (A 8) = some (100, List.replicate 400 (.int 0)) → msr w2 (A 9) (A 10) (A 11) (fun _ => 0) → w2 (A 12) = some (102, List.replicate 4 (.int 0)) → w2 (A 13) = some (102, List.replicate 4 (.int 0)) → msr w2 (A 14) (A 15) (A 16) (fun _ => 0) → wX0_init B ad K 56 [.ref (A 6)] [.ref (A 14), .ref (A 6)] (w2, A 16 + 1, sl + 400 + 400 + 6 + 4 + 4 + 4 + 4 + 6 + 4 + 4) := by
      intro w2 jf j6 j7 j8 jm j12 j13 ja
      simp only [eX0_init_56, eX0_init_59, List.getElem?_cons_zero, List.getElem?_cons_succ, Option.some.injEq, Value.int.injEq, Value.long.injEq, Value.ref.injEq, reduceCtorEq, exists_eq_left', exists_eq_left, exists_and_left, exists_and_right, and_assoc, and_true, true_and, true_or, or_true, x_rfv_ref, x_rfv_null, Prod.mk.injEq, List.set_cons_zero, List.set_cons_succ, List.length_cons, List.length_nil, Value.category, x_nl0, x_nl1, x_nl2, x_nl3, x_nl4, x_nl5, x_nl6, x_nl7, x_nl8, x_nl9, x_nl10, x_nl11, x_nl12, List.map_nil, List.map_cons, List.sum_nil, List.sum_cons, Option.toList_some, Option.toList_none, List.nil_append, List.cons_append, xl_lt, xl_gt, xl_eq, ↓reduceIte, Nat.reduceLT, Nat.reduceAdd, Nat.reduceLeDiff, x_up_self, x_uu, lt0, ln0, lx0, lt1, ln1, lx1, lt2, ln2, lx2, lt3, ln3, lx3, lt4, ln4, lx4, lt5, ln5, lx5, lt6, ln6, lx6, lt7, ln7, lx7, lt8, ln8, lx8, lt9, ln9, lx9, lt10, ln10, lx10, lt11, ln11, lx11, lt12, ln12, lx12, lt13, ln13, lx13, lt14, ln14, lx14, lt15, ln15, lx15, lt16, ln16, lx16, lt17, ln17, lx17, lt18, ln18, lx18, lt19, ln19, lx19, lt20, ln20, lx20, lt21, ln21, lx21, lt22, ln22, lx22, lt23, ln23, lx23, lt24, ln24, lx24, la0, la1, la2, la3, la4, la5, la6, la7, la8, la9, la10, la11, la12, lb0, lb1, lb2, lb3, lb4, lb5, lb6, lb7, lb8, lb9, lb10, lb11, lb12, lt60, lt400, lt900, ltm1, ltm2, ltm4, ltm10000, lt10000, lt1000000, ltm1000000, lt10000000, lt2000, lt100000, Int.toNat_natCast, i1ne0, i0eq0, Int.reduceLT, Int.reduceLE, Int.reduceToNat, Int.reduceNeg, not_true, not_false_iff, false_imp_iff, true_imp_iff, imp_self, implies_true, Option.isSome_some, Bool.false_eq_true, j6, hB 6]
      have f : ∀ e c, c ≠ 6 → x_up w2 (A 6) e (A c) = w2 (A c) := fun e c hc => by rw [x_upA hA, if_neg hc]
      refine h _ ⟨x_up_self _ _ _, (f _ 7 (by decide)).trans j7, (f _ 8 (by decide)).trans j8, ⟨(f _ 9 (by decide)).trans jm.1, (f _ 10 (by decide)).trans jm.2.1, (f _ 11 (by decide)).trans jm.2.2⟩, (f _ 12 (by decide)).trans j12, (f _ 13 (by decide)).trans j13, ⟨(f _ 14 (by decide)).trans ja.1, (f _ 15 (by decide)).trans ja.2.1, (f _ 16 (by decide)).trans ja.2.2⟩⟩ (frm_up jf (by decide) (by decide))
    refine gen2 _ ?_ ?_ ?_ ?_ ?_ ?_ ?_ ?_
    · exact frm_up (frm_up (frm_up (frm_up (frm_up (frm_up (frm_up (frm_up (frm_up kf (by decide) (by decide)) (by decide) (by decide)) (by decide) (by decide)) (by decide) (by decide)) (by decide) (by decide)) (by decide) (by decide)) (by decide) (by decide)) (by decide) (by decide)) (by decide) (by decide)
    · simp [x_upA hA]
    · simp [x_upA hA, k7]
    · simp [x_upA hA, k8]
    · exact ⟨by simp [x_upA hA]; exact km.1, by simp [x_upA hA]; exact km.2.1, by simp [x_upA hA]; exact km.2.2⟩
    · simp [x_upA hA]
    · simp [x_upA hA]
    · exact ⟨by simp [x_upA hA], by simp [x_upA hA], by simp [x_upA hA]⟩
  refine gen _ ?_ ?_ ?_ ?_ ?_
  · exact frm_up (frm_up (frm_up (frm_up (frm_up (frm_up (frm_up (frm_up frm_rf (by decide) (by decide)) (by decide) (by decide)) (by decide) (by decide)) (by decide) (by decide)) (by decide) (by decide)) (by decide) (by decide)) (by decide) (by decide)) (by decide) (by decide)
  · simp [x_upA hA]
  · simp [x_upA hA]
  · simp [x_upA hA]
  · exact ⟨by simp [x_upA hA], by simp [x_upA hA], by simp [x_upA hA]⟩
def nA (a N : Nat) : Nat → Nat := fun c => if c = 0 then a else N + (c - 1)
theorem nA_s {a N c : Nat} (h : 1 ≤ c) : nA a N c + 1 = nA a N (c + 1) := by
  unfold nA
  rw [if_neg (by omega), if_neg (by omega)]
  omega
theorem nA_inj {a N : Nat} (h : a < N) : ainj (nA a N) := fun c d e => by
  unfold nA at e
  split at e <;> split at e <;> omega
theorem nA_adr {B a N : Nat} (h : a < N) (hB : B ≤ a) : adr B (N + 16) (nA a N) 0 0 0 := by
  refine ⟨nA_inj h, fun c => ?_, fun c hc => ?_, fun c hc => ?_⟩
  · unfold nA; split <;> omega
  · unfold us at hc
    unfold nA; split <;> omega
  · unfold us at hc
    unfold nA; split <;> omega
set_option maxRecDepth 20000 in
theorem s_initC {B : Nat} {ad : Nat → Nat} {a N sl : Nat} {K : xK} {w : xM} (ha : a < N) (hB : B ≤ a) (h0 : w a = some (7, [.null, .int 0, .null, .int 0, .null, .int 0, .null, .null, .int 0, .int 0, .int 0])) (h : ∀ w', RC w' ad (nA a N) m_new → (∀ q, q < N → q ≠ a → w' q = w q) → K none (w', N + 16, sl + 1717)) : x_cl (eX7_init B ad) [.ref a] (w, N, sl) K := by
  have hA := nA_inj ha
  have hBA : ∀ c, B ≤ nA a N c := (nA_adr ha hB).2.1
  have e0 : a = nA a N 0 := rfl
  have e1 : N = nA a N 1 := by unfold nA; simp
  have eN : nA a N 16 + 1 = N + 16 := by unfold nA; simp
  have lo : ∀ c, 1 ≤ c → N ≤ nA a N c := fun c hc => by unfold nA; rw [if_neg (by omega)]; omega
  have s1 : nA a N 1 + 1 = nA a N 2 := nA_s (by decide)
  have s2 : nA a N 2 + 1 = nA a N 3 := nA_s (by decide)
  have s3 : nA a N 3 + 1 = nA a N 4 := nA_s (by decide)
  have s4 : nA a N 4 + 1 = nA a N 5 := nA_s (by decide)
  have s5 : nA a N 5 + 1 = nA a N 6 := nA_s (by decide)
  have s6 : nA a N 6 + 1 = nA a N 7 := nA_s (by decide)
  have hsA : ∀ c, 7 ≤ c → c ≤ 15 → nA a N c + 1 = nA a N (c + 1) := fun c h1 _ => nA_s (by omega)
  have n0 : nA a N 0 = a := rfl
  rw [← eN] at h
  have hfr : ∀ w' : xM, (∀ q, (∀ c, c ≤ 16 → q ≠ nA a N c) → w' q = w q) → ∀ q, q < N → q ≠ a → w' q = w q := fun w' hf q h1 h2 => hf q fun c _ => by
    by_cases hc : c = 0
    · rw [hc, n0]; exact h2
    · have := lo c (by omega); omega
  have h' : ∀ w', RC w' ad (nA a N) m_new → (∀ q, (∀ c, c ≤ 16 → q ≠ nA a N c) → w' q = w q) → K none (w', nA a N 16 + 1, sl + 1717) := fun w' h1 h2 => h w' h1 (hfr w' h2)
  have h0' : w (nA a N 0) = some (7, [.null, .int 0, .null, .int 0, .null, .int 0, .null, .null, .int 0, .int 0, .int 0]) := h0
  suffices hz : x_cl (eX7_init B ad) [.ref (nA a N 0)] (w, nA a N 1, sl) K by rw [e1]; exact hz
  clear h h0 hfr eN lo e0 e1 n0
  generalize nA a N = A at *
  have u : ∀ (w : xM) e c, c ≠ 0 → x_up w (A c) e (A 0) = w (A 0) := fun w e c hc => x_up_ne _ _ (ainj_ne hA (Ne.symm hc))
  refine x_ev_of (by simp [x_sl, Value.category]) ?_
  show wX7_init B ad K 0 [.ref (A 0)] [] (w, A 1, sl)
  simp only [eX7_init_0, eX7_init_1, eX7_init_4, eX7_init_5, eX7_init_8, eX7_init_11, eX7_init_14, eX7_init_15, eX7_init_16, eX7_init_19, eX7_init_22, eX7_init_23, eX7_init_25, eX7_init_28, eX7_init_31, eX7_init_32, eX7_init_35, eX7_init_36, List.getElem?_cons_zero, List.getElem?_cons_succ, Option.some.injEq, Value.int.injEq, Value.long.injEq, Value.ref.injEq, reduceCtorEq, exists_eq_left', exists_eq_left, exists_and_left, exists_and_right, and_assoc, and_true, true_and, true_or, or_true, x_rfv_ref, x_rfv_null, Prod.mk.injEq, List.set_cons_zero, List.set_cons_succ, List.length_cons, List.length_nil, Value.category, x_nl0, x_nl1, x_nl2, x_nl3, x_nl4, x_nl5, x_nl6, x_nl7, x_nl8, x_nl9, x_nl10, x_nl11, x_nl12, List.map_nil, List.map_cons, List.sum_nil, List.sum_cons, Option.toList_some, Option.toList_none, List.nil_append, List.cons_append, xl_lt, xl_gt, xl_eq, ↓reduceIte, Nat.reduceLT, Nat.reduceAdd, Nat.reduceLeDiff, x_up_self, x_uu, lt0, ln0, lx0, lt1, ln1, lx1, lt2, ln2, lx2, lt3, ln3, lx3, lt4, ln4, lx4, lt5, ln5, lx5, lt6, ln6, lx6, lt7, ln7, lx7, lt8, ln8, lx8, lt9, ln9, lx9, lt10, ln10, lx10, lt11, ln11, lx11, lt12, ln12, lx12, lt13, ln13, lx13, lt14, ln14, lx14, lt15, ln15, lx15, lt16, ln16, lx16, lt17, ln17, lx17, lt18, ln18, lx18, lt19, ln19, lx19, lt20, ln20, lx20, lt21, ln21, lx21, lt22, ln22, lx22, lt23, ln23, lx23, lt24, ln24, lx24, la0, la1, la2, la3, la4, la5, la6, la7, la8, la9, la10, la11, la12, lb0, lb1, lb2, lb3, lb4, lb5, lb6, lb7, lb8, lb9, lb10, lb11, lb12, lt60, lt400, lt900, ltm1, ltm2, ltm4, ltm10000, lt10000, lt1000000, ltm1000000, lt10000000, lt2000, lt100000, Int.toNat_natCast, i1ne0, i0eq0, Int.reduceLT, Int.reduceLE, Int.reduceToNat, Int.reduceNeg, not_true, not_false_iff, false_imp_iff, true_imp_iff, imp_self, implies_true, Option.isSome_some, Bool.false_eq_true, x_clo, x_cl1, s1, s2, s3, s4, h0', hBA 0, u _ _ 1 (by decide), u _ _ 2 (by decide), u _ _ 3 (by decide)]
  refine s_initLn (x0 := .null) (x1 := 0) (x2 := 0) (by omega) (hBA _) (x_up_self _ _ _) ?_
  rw [s5]
  have gen : ∀ w1 : xM, (∀ q, (∀ c, c ≤ 16 → q ≠ A c) → w1 q = w q) → w1 (A 0) = some (7, [.ref (A 1), .int 0, .ref (A 2), .int 0, .ref (A 3), .int 0, .null, .null, .int 0, .int 0, .int 0]) → w1 (A 1) = some (103, List.replicate 400 .null) → w1 (A 2) = some (104, List.replicate 4 .null) → w1 (A 3) = some (105, List.replicate 60 .null) → w1 (A 4) = some (4, [.ref (A 5), .int 0, .int 0]) → w1 (A 5) = some (103, List.replicate 400 .null) → wX7_init B ad K 39 [.ref (A 0)] [.ref (A 4), .ref (A 0)] (w1, A 6, sl + 400 + 4 + 60 + 3 + 400) := by
    intro w1 kf k0 k1 k2 k3 k4 k5
    simp only [eX7_init_39, eX7_init_42, eX7_init_43, eX7_init_46, eX7_init_47, List.getElem?_cons_zero, List.getElem?_cons_succ, Option.some.injEq, Value.int.injEq, Value.long.injEq, Value.ref.injEq, reduceCtorEq, exists_eq_left', exists_eq_left, exists_and_left, exists_and_right, and_assoc, and_true, true_and, true_or, or_true, x_rfv_ref, x_rfv_null, Prod.mk.injEq, List.set_cons_zero, List.set_cons_succ, List.length_cons, List.length_nil, Value.category, x_nl0, x_nl1, x_nl2, x_nl3, x_nl4, x_nl5, x_nl6, x_nl7, x_nl8, x_nl9, x_nl10, x_nl11, x_nl12, List.map_nil, List.map_cons, List.sum_nil, List.sum_cons, Option.toList_some, Option.toList_none, List.nil_append, List.cons_append, xl_lt, xl_gt, xl_eq, ↓reduceIte, Nat.reduceLT, Nat.reduceAdd, Nat.reduceLeDiff, x_up_self, x_uu, lt0, ln0, lx0, lt1, ln1, lx1, lt2, ln2, lx2, lt3, ln3, lx3, lt4, ln4, lx4, lt5, ln5, lx5, lt6, ln6, lx6, lt7, ln7, lx7, lt8, ln8, lx8, lt9, ln9, lx9, lt10, ln10, lx10, lt11, ln11, lx11, lt12, ln12, lx12, lt13, ln13, lx13, lt14, ln14, lx14, lt15, ln15, lx15, lt16, ln16, lx16, lt17, ln17, lx17, lt18, ln18, lx18, lt19, ln19, lx19, lt20, ln20, lx20, lt21, ln21, lx21, lt22, ln22, lx22, lt23, ln23, lx23, lt24, ln24, lx24, la0, la1, la2, la3, la4, la5, la6, la7, la8, la9, la10, la11, la12, lb0, lb1, lb2, lb3, lb4, lb5, lb6, lb7, lb8, lb9, lb10, lb11, lb12, lt60, lt400, lt900, ltm1, ltm2, ltm4, ltm10000, lt10000, lt1000000, ltm1000000, lt10000000, lt2000, lt100000, Int.toNat_natCast, i1ne0, i0eq0, Int.reduceLT, Int.reduceLE, Int.reduceToNat, Int.reduceNeg, not_true, not_false_iff, false_imp_iff, true_imp_iff, imp_self, implies_true, Option.isSome_some, Bool.false_eq_true, x_cl1, s6, k0, hBA 0]
    have f6 : ∀ e e' c, c ≠ 0 → c ≠ 6 → x_up (x_up w1 (A 0) e) (A 6) e' (A c) = w1 (A c) := fun e e' c c0 c6 => by rw [x_upA hA, if_neg c6, x_upA hA, if_neg c0]
    refine s_initD hA hBA hsA (x_up_self _ _ _) fun w2 hd hf => ?_
    have f2 : ∀ c, c ≠ 0 → (c < 6 ∨ 16 < c) → w2 (A c) = w1 (A c) := fun c c0 c6 => (frm_at hA hf c6).trans (f6 _ _ c c0 (by omega))
    have j0 : w2 (A 0) = some (7, [.ref (A 1), .int 0, .ref (A 2), .int 0, .ref (A 3), .int 0, .ref (A 4), .null, .int 0, .int 0, .int 0]) := by
      rw [frm_at hA hf (by omega), x_upA hA, if_neg (by decide), x_up_self]
    have g6 : ∀ e, x_up w2 (A 0) e (A 6) = some (1, [.ref (A 7), .ref (A 8), .int (nI 0), .int 0, .long 0, .long 0, .ref (A 9), .ref (A 12), .ref (A 13), .long 0, .long 0, .int (nI 0), .int 0, .ref (A 14)]) := fun e => by
      rw [x_upA hA, if_neg (by decide)]; exact hd.1
    simp only [eX7_init_50, eX7_init_53, eX7_init_54, eX7_init_57, eX7_init_60, eX7_init_61, eX7_init_64, eX7_init_65, eX7_init_68, eX7_init_69, eX7_init_72, eX7_init_73, eX7_init_76, List.getElem?_cons_zero, List.getElem?_cons_succ, Option.some.injEq, Value.int.injEq, Value.long.injEq, Value.ref.injEq, reduceCtorEq, exists_eq_left', exists_eq_left, exists_and_left, exists_and_right, and_assoc, and_true, true_and, true_or, or_true, x_rfv_ref, x_rfv_null, Prod.mk.injEq, List.set_cons_zero, List.set_cons_succ, List.length_cons, List.length_nil, Value.category, x_nl0, x_nl1, x_nl2, x_nl3, x_nl4, x_nl5, x_nl6, x_nl7, x_nl8, x_nl9, x_nl10, x_nl11, x_nl12, List.map_nil, List.map_cons, List.sum_nil, List.sum_cons, Option.toList_some, Option.toList_none, List.nil_append, List.cons_append, xl_lt, xl_gt, xl_eq, ↓reduceIte, Nat.reduceLT, Nat.reduceAdd, Nat.reduceLeDiff, x_up_self, x_uu, lt0, ln0, lx0, lt1, ln1, lx1, lt2, ln2, lx2, lt3, ln3, lx3, lt4, ln4, lx4, lt5, ln5, lx5, lt6, ln6, lx6, lt7, ln7, lx7, lt8, ln8, lx8, lt9, ln9, lx9, lt10, ln10, lx10, lt11, ln11, lx11, lt12, ln12, lx12, lt13, ln13, lx13, lt14, ln14, lx14, lt15, ln15, lx15, lt16, ln16, lx16, lt17, ln17, lx17, lt18, ln18, lx18, lt19, ln19, lx19, lt20, ln20, lx20, lt21, ln21, lx21, lt22, ln22, lx22, lt23, ln23, lx23, lt24, ln24, lx24, la0, la1, la2, la3, la4, la5, la6, la7, la8, la9, la10, la11, la12, lb0, lb1, lb2, lb3, lb4, lb5, lb6, lb7, lb8, lb9, lb10, lb11, lb12, lt60, lt400, lt900, ltm1, ltm2, ltm4, ltm10000, lt10000, lt1000000, ltm1000000, lt10000000, lt2000, lt100000, Int.toNat_natCast, i1ne0, i0eq0, Int.reduceLT, Int.reduceLE, Int.reduceToNat, Int.reduceNeg, not_true, not_false_iff, false_imp_iff, true_imp_iff, imp_self, implies_true, Option.isSome_some, Bool.false_eq_true, j0, hBA 0, x_clvp (g6 _)]
    refine s_begin (σ := (x_up w2 (A 0) _, A 16 + 1, _)) hA (fun i _ _ => hBA i) (drc_mv (A' := A) hd (fun c h1 h2 => by dsimp only; rw [x_upA hA, if_neg (by omega)]) fun _ _ _ => rfl) fun w3 hd3 hf3 => ?_
    simp only [eX7_init_0, eX7_init_1, eX7_init_4, eX7_init_5, eX7_init_8, eX7_init_11, eX7_init_14, eX7_init_15, eX7_init_16, eX7_init_19, eX7_init_22, eX7_init_23, eX7_init_25, eX7_init_28, eX7_init_31, eX7_init_32, eX7_init_35, eX7_init_36, eX7_init_39, eX7_init_42, eX7_init_43, eX7_init_46, eX7_init_47, eX7_init_50, eX7_init_53, eX7_init_54, eX7_init_57, eX7_init_60, eX7_init_61, eX7_init_64, eX7_init_65, eX7_init_68, eX7_init_69, eX7_init_72, eX7_init_73, eX7_init_76, eX7_init_79, List.getElem?_cons_zero, List.getElem?_cons_succ, Option.some.injEq, Value.int.injEq, Value.long.injEq, Value.ref.injEq, reduceCtorEq, exists_eq_left', exists_eq_left, exists_and_left, exists_and_right, and_assoc, and_true, true_and, true_or, or_true, x_rfv_ref, x_rfv_null, Prod.mk.injEq, List.set_cons_zero, List.set_cons_succ, List.length_cons, List.length_nil, Value.category, x_nl0, x_nl1, x_nl2, x_nl3, x_nl4, x_nl5, x_nl6, x_nl7, x_nl8, x_nl9, x_nl10, x_nl11, x_nl12, List.map_nil, List.map_cons, List.sum_nil, List.sum_cons, Option.toList_some, Option.toList_none, List.nil_append, List.cons_append, xl_lt, xl_gt, xl_eq, ↓reduceIte, Nat.reduceLT, Nat.reduceAdd, Nat.reduceLeDiff, x_up_self, x_uu, lt0, ln0, lx0, lt1, ln1, lx1, lt2, ln2, lx2, lt3, ln3, lx3, lt4, ln4, lx4, lt5, ln5, lx5, lt6, ln6, lx6, lt7, ln7, lx7, lt8, ln8, lx8, lt9, ln9, lx9, lt10, ln10, lx10, lt11, ln11, lx11, lt12, ln12, lx12, lt13, ln13, lx13, lt14, ln14, lx14, lt15, ln15, lx15, lt16, ln16, lx16, lt17, ln17, lx17, lt18, ln18, lx18, lt19, ln19, lx19, lt20, ln20, lx20, lt21, ln21, lx21, lt22, ln22, lx22, lt23, ln23, lx23, lt24, ln24, lx24, la0, la1, la2, la3, la4, la5, la6, la7, la8, la9, la10, la11, la12, lb0, lb1, lb2, lb3, lb4, lb5, lb6, lb7, lb8, lb9, lb10, lb11, lb12, lt60, lt400, lt900, ltm1, ltm2, ltm4, ltm10000, lt10000, lt1000000, ltm1000000, lt10000000, lt2000, lt100000, Int.toNat_natCast, i1ne0, i0eq0, Int.reduceLT, Int.reduceLE, Int.reduceToNat, Int.reduceNeg, not_true, not_false_iff, false_imp_iff, true_imp_iff, imp_self, implies_true, Option.isSome_some, Bool.false_eq_true]
    have f3 : ∀ c, c ≠ 0 → (c < 6 ∨ 16 < c) → w3 (A c) = w1 (A c) := fun c c0 c6 => by
      rw [frm_at hA hf3 c6]
      dsimp only
      rw [x_upA hA, if_neg c0]
      exact f2 c c0 c6
    have l0 : w3 (A 0) = some (7, [.ref (A 1), .int 0, .ref (A 2), .int 0, .ref (A 3), .int 0, .ref (A 4), .ref (A 6), .int 1000, .int 0, .int 0]) := by
      rw [frm_at hA hf3 (by omega)]
      dsimp only
      rw [x_up_self]
    refine h' w3 ⟨l0, ⟨_, (f3 1 (by omega) (by omega)).trans k1, List.length_replicate, fun i hi => absurd hi (Nat.not_lt_zero i)⟩, ⟨_, (f3 2 (by omega) (by omega)).trans k2, List.length_replicate, fun i hi => absurd hi (Nat.not_lt_zero i)⟩, ⟨_, (f3 3 (by omega) (by omega)).trans k3, List.length_replicate, fun i hi => absurd hi (Nat.not_lt_zero i)⟩, ⟨List.replicate 400 .null, 0, (f3 4 (by omega) (by omega)).trans k4, (f3 5 (by omega) (by omega)).trans k5, List.length_replicate, by decide, Nat.zero_le _, fun k a hk => by simp [m_new] at hk⟩, ?_, fun i hi => absurd hi (Nat.not_lt_zero i), fun i hi => absurd hi (Nat.not_lt_zero i), fun i hi => absurd hi (Nat.not_lt_zero i)⟩ fun q hq => ?_
    · exact ⟨List.replicate 400 .null, List.replicate 400 (.int 0), 1073741823, 0, 0, _, hd3, ⟨List.length_replicate, fun i hi => absurd hi (Nat.not_lt_zero i)⟩, ⟨List.length_replicate, fun i hi => absurd hi (Nat.not_lt_zero i)⟩, fun _ => rfl, fun q => by cases q⟩
    · rw [hf3 q fun c _ h2 => hq c h2]
      dsimp only
      rw [x_up_ne _ _ (hq 0 (by decide)), hf q fun c _ h2 => hq c h2, x_up_ne _ _ (hq 6 (by decide)), x_up_ne _ _ (hq 0 (by decide)), kf q hq]
  refine gen _ (fun q hq => ?_) ?_ ?_ ?_ ?_ ?_ ?_
  · simp only [x_up, hq 0 (by decide), hq 1 (by decide), hq 2 (by decide), hq 3 (by decide), hq 4 (by decide), hq 5 (by decide), if_false]
  · simp [x_upA hA]
  · simp [x_upA hA]
  · simp [x_upA hA]
  · simp [x_upA hA]
  · simp [x_upA hA]
  · simp [x_upA hA]
