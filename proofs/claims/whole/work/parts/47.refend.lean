/-! THE REFERENCE: end, its loops from the last to the first -/
/-- the scratch rows 'again' hold A -/
def agn (w : xM) (M : Nat → Nat) (A : List (Nat × Int32)) : Prop := aw w M 43 100 900 A.length (fun j => .int (nI (A.getD j (0, 0)).1)) ∧ aw w M 44 100 900 A.length (fun j => .int (A.getD j (0, 0)).2)
theorem agn_frc {w w' : xM} {M : Nat → Nat} {A : List (Nat × Int32)} {cs : List Nat} (hM : ainj M) (hf : frc M cs w w') (hc : ∀ c ∈ [43, 44], c ∉ cs) (h : agn w M A) : agn w' M A := ⟨aw_frc hM hf (hc _ (by simp)) h.1, aw_frc hM hf (hc _ (by simp)) h.2⟩
theorem a_ap {A : List (Nat × Int32)} {q : Nat × Int32} {i : Nat} (h : i < A.length) : (A ++ [q]).getD i (0, 0) = A.getD i (0, 0) := by
  simp [List.getD, List.getElem?_append_left h]
theorem a_al {A : List (Nat × Int32)} {q : Nat × Int32} : (A ++ [q]).getD A.length (0, 0) = q := by simp [List.getD]
theorem a_len {A : List (Nat × Int32)} {q : Nat × Int32} : (A ++ [q]).length = A.length + 1 := by simp
theorem agn_push {w : xM} {M : Nat → Nat} {A : List (Nat × Int32)} {V W : List Value} {i : Nat} {l : Int32} (hV : apre V 900 A.length (fun j => .int (nI (A.getD j (0, 0)).1))) (hW : apre W 900 A.length (fun j => .int (A.getD j (0, 0)).2)) (hn : A.length < 900) (h1 : w (M 43) = some (100, V.set A.length (.int (nI i)))) (h2 : w (M 44) = some (100, W.set A.length (.int l))) : agn w M (A ++ [(i, l)]) := by
  unfold agn
  rw [a_len]
  exact ⟨aw_push hV hn h1 (fun j hj => by rw [a_ap hj]) (by rw [a_al]), aw_push hW hn h2 (fun j hj => by rw [a_ap hj]) (by rw [a_al])⟩
theorem en5 {B : Nat} {ad M : Nat → Nat} {K : xK} {fs : List Value} {A : List (Nat × Int32)} {x1 x3 x4 : Int32} (hM : ainj M) (hB : ∀ c, B ≤ M c) (h16 : fs[16]? = some (.ref (M 16))) (h17 : fs[17]? = some (.ref (M 17))) (h43 : fs[43]? = some (.ref (M 43))) (h44 : fs[44]? = some (.ref (M 44))) : ∀ d k, d + k = A.length → ∀ σ : xW, σ.1 (M 0) = some (8, fs) → agn σ.1 M A → aw σ.1 M 16 100 900 k (fun j => .int (nI (A.getD j (0, 0)).1)) → aw σ.1 M 17 100 900 k (fun j => .int (A.getD j (0, 0)).2) →
    (∀ w', aw w' M 16 100 900 A.length (fun j => .int (nI (A.getD j (0, 0)).1)) → aw w' M 17 100 900 A.length (fun j => .int (A.getD j (0, 0)).2) → frc M [16, 17] σ.1 w' → wX8_end B ad K 534 [.ref (M 0), .int x1, .int (nI A.length), .int x3, .int x4, .int (nI A.length)] [] (w', σ.2)) → wX8_end B ad K 494 [.ref (M 0), .int x1, .int (nI A.length), .int x3, .int x4, .int (nI k)] [] σ := by
  intro d
  induction d with
  | zero =>
    intro k hk σ h0 ha g16 g17 h
    have : k = A.length := by omega
    subst this
    have hn : A.length ≤ 900 := by obtain ⟨⟨V, -, g2⟩, -⟩ := ha; exact apre_n g2
    rw [eX8_end_494]
    simp only [eX8_end_496, eX8_end_497, eX8_end_500, eX8_end_501, eX8_end_504, eX8_end_506, eX8_end_507, eX8_end_510, eX8_end_512, eX8_end_513, eX8_end_514, eX8_end_515, eX8_end_518, eX8_end_520, eX8_end_521, eX8_end_524, eX8_end_526, eX8_end_527, eX8_end_528, eX8_end_531, List.getElem?_cons_zero, List.getElem?_cons_succ, Option.some.injEq, Value.int.injEq, Value.long.injEq, Value.ref.injEq, reduceCtorEq, exists_eq_left', exists_eq_left, exists_and_left, exists_and_right, and_assoc, and_true, true_and, true_or, or_true, x_rfv_ref, x_rfv_null, Prod.mk.injEq, List.set_cons_zero, List.set_cons_succ, List.length_cons, List.length_nil, Value.category, x_nl0, x_nl1, x_nl2, x_nl3, x_nl4, x_nl5, x_nl6, x_nl7, x_nl8, x_nl9, x_nl10, x_nl11, x_nl12, List.map_nil, List.map_cons, List.sum_nil, List.sum_cons, Option.toList_some, Option.toList_none, List.nil_append, List.cons_append, xl_lt, xl_gt, xl_eq, ↓reduceIte, Nat.reduceLT, Nat.reduceAdd, Nat.reduceLeDiff, x_up_self, x_uu, lt0, ln0, lx0, lt1, ln1, lx1, lt2, ln2, lx2, lt3, ln3, lx3, lt4, ln4, lx4, lt5, ln5, lx5, lt6, ln6, lx6, lt7, ln7, lx7, lt8, ln8, lx8, lt9, ln9, lx9, lt10, ln10, lx10, lt11, ln11, lx11, lt12, ln12, lx12, lt13, ln13, lx13, lt14, ln14, lx14, lt15, ln15, lx15, lt16, ln16, lx16, lt17, ln17, lx17, lt18, ln18, lx18, lt19, ln19, lx19, lt20, ln20, lx20, lt21, ln21, lx21, lt22, ln22, lx22, lt23, ln23, lx23, lt24, ln24, lx24, la0, la1, la2, la3, la4, la5, la6, la7, la8, la9, la10, la11, la12, lb0, lb1, lb2, lb3, lb4, lb5, lb6, lb7, lb8, lb9, lb10, lb11, lb12, lt60, lt400, lt900, ltm1, ltm2, ltm4, ltm10000, lt10000, lt1000000, ltm1000000, lt10000000, lt2000, lt100000, Int.toNat_natCast, i1ne0, i0eq0, Int.reduceLT, Int.reduceLE, Int.reduceToNat, Int.reduceNeg, not_true, not_false_iff, false_imp_iff, true_imp_iff, imp_self, implies_true, Option.isSome_some, Bool.false_eq_true, nI_k (show A.length < 2147483648 by omega)]
    rw [if_neg (by omega)]
    exact h σ.1 g16 g17 frc_rf
  | succ d ih =>
    intro k hk σ h0 ha g16 g17 h
    obtain ⟨⟨V, v1, v2⟩, ⟨W, w1, w2⟩⟩ := id ha
    obtain ⟨X, p1, p2⟩ := g16
    obtain ⟨Y, y1, y2⟩ := g17
    have hn : A.length ≤ 900 := apre_n v2
    have e1 : x_ix (nI k) V = some (.int (nI (A.getD k (0, 0)).1)) := apre_ix v2 (show k < A.length by omega) (by omega)
    have e2 : x_ix (nI k) W = some (.int (A.getD k (0, 0)).2) := apre_ix w2 (show k < A.length by omega) (by omega)
    rw [eX8_end_494]
    simp only [eX8_end_496, eX8_end_497, eX8_end_500, eX8_end_501, eX8_end_504, eX8_end_506, eX8_end_507, eX8_end_510, eX8_end_512, eX8_end_513, eX8_end_514, eX8_end_515, eX8_end_518, eX8_end_520, eX8_end_521, eX8_end_524, eX8_end_526, eX8_end_527, eX8_end_528, eX8_end_531, List.getElem?_cons_zero, List.getElem?_cons_succ, Option.some.injEq, Value.int.injEq, Value.long.injEq, Value.ref.injEq, reduceCtorEq, exists_eq_left', exists_eq_left, exists_and_left, exists_and_right, and_assoc, and_true, true_and, true_or, or_true, x_rfv_ref, x_rfv_null, Prod.mk.injEq, List.set_cons_zero, List.set_cons_succ, List.length_cons, List.length_nil, Value.category, x_nl0, x_nl1, x_nl2, x_nl3, x_nl4, x_nl5, x_nl6, x_nl7, x_nl8, x_nl9, x_nl10, x_nl11, x_nl12, List.map_nil, List.map_cons, List.sum_nil, List.sum_cons, Option.toList_some, Option.toList_none, List.nil_append, List.cons_append, xl_lt, xl_gt, xl_eq, ↓reduceIte, Nat.reduceLT, Nat.reduceAdd, Nat.reduceLeDiff, x_up_self, x_uu, lt0, ln0, lx0, lt1, ln1, lx1, lt2, ln2, lx2, lt3, ln3, lx3, lt4, ln4, lx4, lt5, ln5, lx5, lt6, ln6, lx6, lt7, ln7, lx7, lt8, ln8, lx8, lt9, ln9, lx9, lt10, ln10, lx10, lt11, ln11, lx11, lt12, ln12, lx12, lt13, ln13, lx13, lt14, ln14, lx14, lt15, ln15, lx15, lt16, ln16, lx16, lt17, ln17, lx17, lt18, ln18, lx18, lt19, ln19, lx19, lt20, ln20, lx20, lt21, ln21, lx21, lt22, ln22, lx22, lt23, ln23, lx23, lt24, ln24, lx24, la0, la1, la2, la3, la4, la5, la6, la7, la8, la9, la10, la11, la12, lb0, lb1, lb2, lb3, lb4, lb5, lb6, lb7, lb8, lb9, lb10, lb11, lb12, lt60, lt400, lt900, ltm1, ltm2, ltm4, ltm10000, lt10000, lt1000000, ltm1000000, lt10000000, lt2000, lt100000, Int.toNat_natCast, i1ne0, i0eq0, Int.reduceLT, Int.reduceLE, Int.reduceToNat, Int.reduceNeg, not_true, not_false_iff, false_imp_iff, true_imp_iff, imp_self, implies_true, Option.isSome_some, Bool.false_eq_true, h0, h16, h17, h43, h44, v1, w1, p1, y1, hB, e1, e2, x_upA hM, Nat.reduceEqDiff, nI_k (show A.length < 2147483648 by omega), nI_k (show k < 2147483648 by omega), nI_nat (show k < 2 ^ 31 by omega), nI_1, apre_some p2 (show k < 900 by omega) (by decide), apre_some y2 (show k < 900 by omega) (by decide)]
    rw [if_pos (by omega)]
    have hf : ∀ a b, frc M [16, 17] σ.1 (x_up (x_up σ.1 (M 16) a) (M 17) b) := fun a b => frc_up (frc_up frc_rf (by simp)) (by simp)
    refine ih (k + 1) (by omega) _ ?_ ?_ ?_ ?_ ?_
    · simp [x_upA hM, h0]
    · exact agn_frc hM (hf _ _) (by decide) ha
    · exact aw_push p2 (by omega) ((x_upA hM _ _ _ _).trans ((if_neg (by decide)).trans (x_up_self _ _ _))) (fun j _ => rfl) rfl
    · exact aw_push y2 (by omega) (x_up_self _ _ _) (fun j _ => rfl) rfl
    · intro w' k1 k2 k3
      exact h w' k1 k2 (frc_tr (hf _ _) k3 (fun c hc => hc))
