/-! THE REFERENCE: its object (code 0) and its arrays (code: the field's number) -/
def mobj (M : Nat → Nat) (thr it cl tg td tt wa ma hb mo tp : Int32) (ins : Int64) (hk ba : Int32) (co : Int64) (bp pg bo : Int32) : xE :=
  (8, .int thr :: .int it :: .ref (M 2) :: .ref (M 3) :: .ref (M 4) :: .ref (M 5) :: .ref (M 6) :: .int cl :: .ref (M 8) :: .ref (M 9) :: .ref (M 10) :: .ref (M 11) :: .int tg :: .int td :: .int tt :: .int wa :: .ref (M 16) :: .ref (M 17) :: .int ma :: .ref (M 19) :: .ref (M 20) :: .ref (M 21) :: .ref (M 22) :: .int hb :: .ref (M 24) :: .int mo :: .int tp :: .long ins :: .ref (M 28) :: .ref (M 29) :: .int hk :: .int ba :: .long co :: .int bp :: .int pg :: .ref (M 35) :: .ref (M 36) :: .ref (M 37) :: .ref (M 38) :: .ref (M 39) :: .ref (M 40) :: .ref (M 41) :: .int bo :: .ref (M 43) :: .ref (M 44) :: [])
/-- the first n places of an array of N -/
def apre (V : List Value) (N n : Nat) (f : Nat → Value) : Prop := V.length = N ∧ ∀ i, i < n → V[i]? = some (f i)
theorem apre_ix {V : List Value} {N n i : Nat} {f : Nat → Value} (h : apre V N n f) (hi : i < n) (hn : n ≤ 2147483648) : x_ix (nI i) V = some (f i) := by
  rw [x_ix_nI (by omega)]; exact h.2 i hi
theorem apre_some {V : List Value} {N n i : Nat} {f : Nat → Value} (h : apre V N n f) (hi : i < N) (hN : N ≤ 2147483648) : (x_ix (nI i) V).isSome := by
  rw [x_ix_nI (by omega), List.getElem?_eq_getElem (by rw [h.1]; exact hi)]
  rfl
theorem apre_set {V : List Value} {N n j : Nat} {f : Nat → Value} {v : Value} (h : apre V N n f) (hj : j < N) : apre (V.set j v) N n (fun i => if i = j then v else f i) := by
  refine ⟨by rw [List.length_set]; exact h.1, fun i hi => ?_⟩
  by_cases hij : i = j
  · subst hij
    rw [List.getElem?_set_self (by rw [h.1]; exact hj)]; simp
  · rw [List.getElem?_set_ne (Ne.symm hij)]
    simp only [hij, ↓reduceIte]
    exact h.2 i hi
theorem apre_push {V : List Value} {N n : Nat} {f : Nat → Value} {v : Value} (h : apre V N n f) (hn : n < N) : apre (V.set n v) N (n + 1) (fun i => if i = n then v else f i) := by
  refine ⟨by rw [List.length_set]; exact h.1, fun i hi => ?_⟩
  by_cases hij : i = n
  · subst hij
    rw [List.getElem?_set_self (by rw [h.1]; exact hn)]; simp
  · rw [List.getElem?_set_ne (Ne.symm hij)]
    simp only [hij, ↓reduceIte]
    exact h.2 i (by omega)
theorem apre_le {V : List Value} {N n m : Nat} {f : Nat → Value} (h : apre V N n f) (hm : m ≤ n) : apre V N m f := ⟨h.1, fun i hi => h.2 i (by omega)⟩
theorem apre_congr {V : List Value} {N n : Nat} {f g : Nat → Value} (h : apre V N n f) (hg : ∀ i, i < n → f i = g i) : apre V N n g := ⟨h.1, fun i hi => by rw [← hg i hi]; exact h.2 i hi⟩
/-- what a method leaves alone: all but the listed codes -/
def frc (M : Nat → Nat) (cs : List Nat) (w w' : xM) : Prop := ∀ q, (∀ c, c ∈ cs → q ≠ M c) → w' q = w q
theorem frc_up {M : Nat → Nat} {cs : List Nat} {w w' : xM} {c : Nat} {e : xE} (h : frc M cs w w') (hc : c ∈ cs) : frc M cs w (x_up w' (M c) e) := fun q hq => by
  rw [x_up_ne _ _ (hq c hc)]; exact h q hq
theorem frc_at {M : Nat → Nat} (hM : ainj M) {cs : List Nat} {w w' : xM} (h : frc M cs w w') {c : Nat} (hc : c ∉ cs) : w' (M c) = w (M c) := h _ fun d hd e => hc (by rw [hM c d e]; exact hd)
theorem frc_rf {M : Nat → Nat} {cs : List Nat} {w : xM} : frc M cs w w := fun _ _ => rfl
theorem frc_tr {M : Nat → Nat} {cs ds : List Nat} {w w' w'' : xM} (h : frc M cs w w') (h2 : frc M ds w' w'') (hs : ∀ c, c ∈ ds → c ∈ cs) : frc M cs w w'' := fun q hq => (h2 q (fun c hc => hq c (hs c hc))).trans (h q hq)
theorem nI_k {k : Nat} (h : k < 2147483648) : (nI k).toInt = (k : Int) := nI_toInt h
/-- begin(): the twelve numbers are cleared -/
theorem bg_l1 {B : Nat} {ad M : Nat → Nat} {K : xK} {fs : List Value} (hM : ainj M) (hf : fs[24]? = some (.ref (M 24))) (hB : B ≤ M 24) : ∀ n k, n + k = 12 → ∀ (σ : xW) (V : List Value), σ.1 (M 0) = some (8, fs) → σ.1 (M 24) = some (101, V) → apre V 24 k (fun _ => .long 0) →
    (∀ (w' : xM) (V' : List Value), w' (M 24) = some (101, V') → apre V' 24 12 (fun _ => .long 0) → frc M [24] σ.1 w' → wX8_begin B ad K 31 [.ref (M 0), .int 12] [] (w', σ.2)) → wX8_begin B ad K 12 [.ref (M 0), .int (nI k)] [] σ := by
  intro n
  induction n with
  | zero =>
    intro k hk σ V h0 h24 hV h
    have : k = 12 := by omega
    subst this
    rw [eX8_begin_12]
    simp only [eX8_begin_13, eX8_begin_15, eX8_begin_18, eX8_begin_19, eX8_begin_22, eX8_begin_23, eX8_begin_24, eX8_begin_25, eX8_begin_28, List.getElem?_cons_zero, List.getElem?_cons_succ, Option.some.injEq, Value.int.injEq, Value.long.injEq, Value.ref.injEq, reduceCtorEq, exists_eq_left', exists_eq_left, exists_and_left, exists_and_right, and_assoc, and_true, true_and, true_or, or_true, x_rfv_ref, x_rfv_null, Prod.mk.injEq, List.set_cons_zero, List.set_cons_succ, List.length_cons, List.length_nil, Value.category, x_nl0, x_nl1, x_nl2, x_nl3, x_nl4, x_nl5, x_nl6, x_nl7, x_nl8, x_nl9, x_nl10, x_nl11, x_nl12, List.map_nil, List.map_cons, List.sum_nil, List.sum_cons, Option.toList_some, Option.toList_none, List.nil_append, List.cons_append, xl_lt, xl_gt, xl_eq, ↓reduceIte, Nat.reduceLT, Nat.reduceAdd, Nat.reduceLeDiff, x_up_self, x_uu, lt0, ln0, lx0, lt1, ln1, lx1, lt2, ln2, lx2, lt3, ln3, lx3, lt4, ln4, lx4, lt5, ln5, lx5, lt6, ln6, lx6, lt7, ln7, lx7, lt8, ln8, lx8, lt9, ln9, lx9, lt10, ln10, lx10, lt11, ln11, lx11, lt12, ln12, lx12, lt13, ln13, lx13, lt14, ln14, lx14, lt15, ln15, lx15, lt16, ln16, lx16, lt17, ln17, lx17, lt18, ln18, lx18, lt19, ln19, lx19, lt20, ln20, lx20, lt21, ln21, lx21, lt22, ln22, lx22, lt23, ln23, lx23, lt24, ln24, lx24, la0, la1, la2, la3, la4, la5, la6, la7, la8, la9, la10, la11, la12, lb0, lb1, lb2, lb3, lb4, lb5, lb6, lb7, lb8, lb9, lb10, lb11, lb12, lt60, lt400, lt900, ltm1, ltm2, ltm4, ltm10000, lt10000, lt1000000, ltm1000000, lt10000000, lt2000, lt100000, Int.toNat_natCast, i1ne0, i0eq0, Int.reduceLT, Int.reduceLE, Int.reduceToNat, Int.reduceNeg, not_true, not_false_iff, false_imp_iff, true_imp_iff, imp_self, implies_true, Option.isSome_some, Bool.false_eq_true, nI_k (show 12 < 2147483648 by decide)]
    exact h σ.1 V h24 hV frc_rf
  | succ n ih =>
    intro k hk σ V h0 h24 hV h
    rw [eX8_begin_12]
    simp only [eX8_begin_13, eX8_begin_15, eX8_begin_18, eX8_begin_19, eX8_begin_22, eX8_begin_23, eX8_begin_24, eX8_begin_25, eX8_begin_28, List.getElem?_cons_zero, List.getElem?_cons_succ, Option.some.injEq, Value.int.injEq, Value.long.injEq, Value.ref.injEq, reduceCtorEq, exists_eq_left', exists_eq_left, exists_and_left, exists_and_right, and_assoc, and_true, true_and, true_or, or_true, x_rfv_ref, x_rfv_null, Prod.mk.injEq, List.set_cons_zero, List.set_cons_succ, List.length_cons, List.length_nil, Value.category, x_nl0, x_nl1, x_nl2, x_nl3, x_nl4, x_nl5, x_nl6, x_nl7, x_nl8, x_nl9, x_nl10, x_nl11, x_nl12, List.map_nil, List.map_cons, List.sum_nil, List.sum_cons, Option.toList_some, Option.toList_none, List.nil_append, List.cons_append, xl_lt, xl_gt, xl_eq, ↓reduceIte, Nat.reduceLT, Nat.reduceAdd, Nat.reduceLeDiff, x_up_self, x_uu, lt0, ln0, lx0, lt1, ln1, lx1, lt2, ln2, lx2, lt3, ln3, lx3, lt4, ln4, lx4, lt5, ln5, lx5, lt6, ln6, lx6, lt7, ln7, lx7, lt8, ln8, lx8, lt9, ln9, lx9, lt10, ln10, lx10, lt11, ln11, lx11, lt12, ln12, lx12, lt13, ln13, lx13, lt14, ln14, lx14, lt15, ln15, lx15, lt16, ln16, lx16, lt17, ln17, lx17, lt18, ln18, lx18, lt19, ln19, lx19, lt20, ln20, lx20, lt21, ln21, lx21, lt22, ln22, lx22, lt23, ln23, lx23, lt24, ln24, lx24, la0, la1, la2, la3, la4, la5, la6, la7, la8, la9, la10, la11, la12, lb0, lb1, lb2, lb3, lb4, lb5, lb6, lb7, lb8, lb9, lb10, lb11, lb12, lt60, lt400, lt900, ltm1, ltm2, ltm4, ltm10000, lt10000, lt1000000, ltm1000000, lt10000000, lt2000, lt100000, Int.toNat_natCast, i1ne0, i0eq0, Int.reduceLT, Int.reduceLE, Int.reduceToNat, Int.reduceNeg, not_true, not_false_iff, false_imp_iff, true_imp_iff, imp_self, implies_true, Option.isSome_some, Bool.false_eq_true, nI_k (show k < 2147483648 by omega), h0, hf, h24, hB, apre_some hV (show k < 24 by omega) (by decide), nI_nat (show k < 2 ^ 31 by omega), nI_1]
    rw [if_pos (by omega)]
    refine ih (k + 1) (by omega) _ (V.set k (.long 0)) (by dsimp only; rw [x_upA hM, if_neg (by decide)]; exact h0) (by dsimp only; rw [x_up_self]) (apre_congr (apre_push hV (by omega)) (fun i _ => by split <;> rfl)) fun w' V' g1 g2 g3 => ?_
    exact h w' V' g1 g2 (frc_tr (frc_up frc_rf (List.mem_singleton.mpr rfl)) g3 (fun c hc => hc))
set_option maxRecDepth 20000 in
theorem s_beginM {B : Nat} {ad M : Nat → Nat} {thr it cl tg td tt wa ma hb mo tp : Int32} {ins : Int64} {hk ba : Int32} {co : Int64} {bp pg bo : Int32} {V : List Value} {f : Nat → Value} {me sp : Nat → Int32} {σ : xW} {K : xK} (hM : ainj M) (hB : ∀ c, B ≤ M c) (h0 : σ.1 (M 0) = some (mobj M thr it cl tg td tt wa ma hb mo tp ins hk ba co bp pg bo)) (h24 : σ.1 (M 24) = some (101, V)) (hV : apre V 24 0 f) (h28 : σ.1 (M 28) = some (102, [.int (me 0), .int (me 1), .int (me 2), .int (me 3)])) (h29 : σ.1 (M 29) = some (102, [.int (sp 0), .int (sp 1), .int (sp 2), .int (sp 3)]))
    (h : ∀ (w' : xM) (V' : List Value), w' (M 0) = some (mobj M thr it cl tg td tt wa 0 0 td tt 0 0 ba co bp pg bo) → w' (M 24) = some (101, V') → apre V' 24 12 (fun i => .long (if i = 1 then tg.toInt64 else 0)) → w' (M 28) = some (102, [.int 0, .int 0, .int 0, .int 0]) → w' (M 29) = some (102, [.int 0, .int 0, .int 0, .int 0]) → frc M [0, 24, 28, 29] σ.1 w' → K none (w', σ.2)) : x_cl (eX8_begin B ad) [.ref (M 0)] σ K := by
  refine x_ev_of (by simp [x_sl, Value.category]) ?_
  show wX8_begin B ad K 0 [.ref (M 0), .retAddr 0] [] σ
  unfold mobj at h0
  have b0 := hB 0
  have b24 := hB 24
  have b28 := hB 28
  have b29 := hB 29
  simp only [eX8_begin_0, eX8_begin_1, eX8_begin_2, eX8_begin_5, eX8_begin_6, eX8_begin_7, eX8_begin_10, eX8_begin_11, List.getElem?_cons_zero, List.getElem?_cons_succ, Option.some.injEq, Value.int.injEq, Value.long.injEq, Value.ref.injEq, reduceCtorEq, exists_eq_left', exists_eq_left, exists_and_left, exists_and_right, and_assoc, and_true, true_and, true_or, or_true, x_rfv_ref, x_rfv_null, Prod.mk.injEq, List.set_cons_zero, List.set_cons_succ, List.length_cons, List.length_nil, Value.category, x_nl0, x_nl1, x_nl2, x_nl3, x_nl4, x_nl5, x_nl6, x_nl7, x_nl8, x_nl9, x_nl10, x_nl11, x_nl12, List.map_nil, List.map_cons, List.sum_nil, List.sum_cons, Option.toList_some, Option.toList_none, List.nil_append, List.cons_append, xl_lt, xl_gt, xl_eq, ↓reduceIte, Nat.reduceLT, Nat.reduceAdd, Nat.reduceLeDiff, x_up_self, x_uu, lt0, ln0, lx0, lt1, ln1, lx1, lt2, ln2, lx2, lt3, ln3, lx3, lt4, ln4, lx4, lt5, ln5, lx5, lt6, ln6, lx6, lt7, ln7, lx7, lt8, ln8, lx8, lt9, ln9, lx9, lt10, ln10, lx10, lt11, ln11, lx11, lt12, ln12, lx12, lt13, ln13, lx13, lt14, ln14, lx14, lt15, ln15, lx15, lt16, ln16, lx16, lt17, ln17, lx17, lt18, ln18, lx18, lt19, ln19, lx19, lt20, ln20, lx20, lt21, ln21, lx21, lt22, ln22, lx22, lt23, ln23, lx23, lt24, ln24, lx24, la0, la1, la2, la3, la4, la5, la6, la7, la8, la9, la10, la11, la12, lb0, lb1, lb2, lb3, lb4, lb5, lb6, lb7, lb8, lb9, lb10, lb11, lb12, lt60, lt400, lt900, ltm1, ltm2, ltm4, ltm10000, lt10000, lt1000000, ltm1000000, lt10000000, lt2000, lt100000, Int.toNat_natCast, i1ne0, i0eq0, Int.reduceLT, Int.reduceLE, Int.reduceToNat, Int.reduceNeg, not_true, not_false_iff, false_imp_iff, true_imp_iff, imp_self, implies_true, Option.isSome_some, Bool.false_eq_true, h0, b0]
  refine bg_l1 hM rfl b24 12 0 rfl _ V (by dsimp only; rw [x_up_self]) (by dsimp only; rw [x_upA hM, if_neg (by decide)]; exact h24) ⟨hV.1, fun i hi => by omega⟩ fun w' V' g1 g2 g3 => ?_
  have e0 : w' (M 0) = some (mobj M thr it cl tg td tt wa 0 0 mo tp ins hk ba co bp pg bo) := by
    rw [frc_at hM g3 (by decide)]; dsimp only; rw [x_up_self]; rfl
  have e28 : w' (M 28) = some (102, [.int (me 0), .int (me 1), .int (me 2), .int (me 3)]) := (frc_at hM g3 (by decide)).trans (by dsimp only; rw [x_upA hM, if_neg (by decide)]; exact h28)
  have e29 : w' (M 29) = some (102, [.int (sp 0), .int (sp 1), .int (sp 2), .int (sp 3)]) := (frc_at hM g3 (by decide)).trans (by dsimp only; rw [x_upA hM, if_neg (by decide)]; exact h29)
  unfold mobj at e0
  have s1 : V'[1]?.isSome = true := apre_some (i := 1) g2 (by decide) (by decide)
  simp only [eX8_begin_31, eX8_begin_32, eX8_begin_35, eX8_begin_36, eX8_begin_37, eX8_begin_40, eX8_begin_41, eX8_begin_42, eX8_begin_43, eX8_begin_44, eX8_begin_47, eX8_begin_50, eX8_begin_51, eX8_begin_52, eX8_begin_55, eX8_begin_58, eX8_begin_59, eX8_begin_60, eX8_begin_63, eX8_begin_64, List.getElem?_cons_zero, List.getElem?_cons_succ, Option.some.injEq, Value.int.injEq, Value.long.injEq, Value.ref.injEq, reduceCtorEq, exists_eq_left', exists_eq_left, exists_and_left, exists_and_right, and_assoc, and_true, true_and, true_or, or_true, x_rfv_ref, x_rfv_null, Prod.mk.injEq, List.set_cons_zero, List.set_cons_succ, List.length_cons, List.length_nil, Value.category, x_nl0, x_nl1, x_nl2, x_nl3, x_nl4, x_nl5, x_nl6, x_nl7, x_nl8, x_nl9, x_nl10, x_nl11, x_nl12, List.map_nil, List.map_cons, List.sum_nil, List.sum_cons, Option.toList_some, Option.toList_none, List.nil_append, List.cons_append, xl_lt, xl_gt, xl_eq, ↓reduceIte, Nat.reduceLT, Nat.reduceAdd, Nat.reduceLeDiff, x_up_self, x_uu, lt0, ln0, lx0, lt1, ln1, lx1, lt2, ln2, lx2, lt3, ln3, lx3, lt4, ln4, lx4, lt5, ln5, lx5, lt6, ln6, lx6, lt7, ln7, lx7, lt8, ln8, lx8, lt9, ln9, lx9, lt10, ln10, lx10, lt11, ln11, lx11, lt12, ln12, lx12, lt13, ln13, lx13, lt14, ln14, lx14, lt15, ln15, lx15, lt16, ln16, lx16, lt17, ln17, lx17, lt18, ln18, lx18, lt19, ln19, lx19, lt20, ln20, lx20, lt21, ln21, lx21, lt22, ln22, lx22, lt23, ln23, lx23, lt24, ln24, lx24, la0, la1, la2, la3, la4, la5, la6, la7, la8, la9, la10, la11, la12, lb0, lb1, lb2, lb3, lb4, lb5, lb6, lb7, lb8, lb9, lb10, lb11, lb12, lt60, lt400, lt900, ltm1, ltm2, ltm4, ltm10000, lt10000, lt1000000, ltm1000000, lt10000000, lt2000, lt100000, Int.toNat_natCast, i1ne0, i0eq0, Int.reduceLT, Int.reduceLE, Int.reduceToNat, Int.reduceNeg, not_true, not_false_iff, false_imp_iff, true_imp_iff, imp_self, implies_true, Option.isSome_some, Bool.false_eq_true, e0, g1, b0, b24, s1, x_upA hM, Nat.reduceEqDiff]
  iterate 5 (rw [eX8_begin_65]; simp only [eX8_begin_66, eX8_begin_67, eX8_begin_70, eX8_begin_71, eX8_begin_74, eX8_begin_75, eX8_begin_76, eX8_begin_77, eX8_begin_78, eX8_begin_81, eX8_begin_82, eX8_begin_83, eX8_begin_84, eX8_begin_87, eX8_begin_90, eX8_begin_91, eX8_begin_92, eX8_begin_95, List.getElem?_cons_zero, List.getElem?_cons_succ, Option.some.injEq, Value.int.injEq, Value.long.injEq, Value.ref.injEq, reduceCtorEq, exists_eq_left', exists_eq_left, exists_and_left, exists_and_right, and_assoc, and_true, true_and, true_or, or_true, x_rfv_ref, x_rfv_null, Prod.mk.injEq, List.set_cons_zero, List.set_cons_succ, List.length_cons, List.length_nil, Value.category, x_nl0, x_nl1, x_nl2, x_nl3, x_nl4, x_nl5, x_nl6, x_nl7, x_nl8, x_nl9, x_nl10, x_nl11, x_nl12, List.map_nil, List.map_cons, List.sum_nil, List.sum_cons, Option.toList_some, Option.toList_none, List.nil_append, List.cons_append, xl_lt, xl_gt, xl_eq, ↓reduceIte, Nat.reduceLT, Nat.reduceAdd, Nat.reduceLeDiff, x_up_self, x_uu, lt0, ln0, lx0, lt1, ln1, lx1, lt2, ln2, lx2, lt3, ln3, lx3, lt4, ln4, lx4, lt5, ln5, lx5, lt6, ln6, lx6, lt7, ln7, lx7, lt8, ln8, lx8, lt9, ln9, lx9, lt10, ln10, lx10, lt11, ln11, lx11, lt12, ln12, lx12, lt13, ln13, lx13, lt14, ln14, lx14, lt15, ln15, lx15, lt16, ln16, lx16, lt17, ln17, lx17, lt18, ln18, lx18, lt19, ln19, lx19, lt20, ln20, lx20, lt21, ln21, lx21, lt22, ln22, lx22, lt23, ln23, lx23, lt24, ln24, lx24, la0, la1, la2, la3, la4, la5, la6, la7, la8, la9, la10, la11, la12, lb0, lb1, lb2, lb3, lb4, lb5, lb6, lb7, lb8, lb9, lb10, lb11, lb12, lt60, lt400, lt900, ltm1, ltm2, ltm4, ltm10000, lt10000, lt1000000, ltm1000000, lt10000000, lt2000, lt100000, Int.toNat_natCast, i1ne0, i0eq0, Int.reduceLT, Int.reduceLE, Int.reduceToNat, Int.reduceNeg, not_true, not_false_iff, false_imp_iff, true_imp_iff, imp_self, implies_true, Option.isSome_some, Bool.false_eq_true, e0, e28, e29, b0, b28, b29, x_upA hM, Nat.reduceEqDiff])
  refine h _ (V'.set 1 (.long tg.toInt64)) ?_ ?_ (apre_congr (apre_set g2 (by decide)) fun i _ => by split <;> rfl) ?_ ?_ fun q hq => ?_
  · simp [x_upA hM, mobj]
  · simp [x_upA hM]
  · simp [x_upA hM]
  · simp [x_upA hM]
  · have n0 := hq 0 (by simp)
    have n24 := hq 24 (by simp)
    have n28 := hq 28 (by simp)
    have n29 := hq 29 (by simp)
    simp [x_up, n0, n24, n28, n29]
    rw [g3 q (fun c hc => by rw [List.mem_singleton.mp hc]; exact n24)]
    simp [x_up, n0]
