/-! THE CLASS: Page's constructor -/
def pgo (A : Nat → Nat) (b : Nat) (co : Int64) (pr t f o : Int32) : xE := (6, [.ref (A (b + 4)), .ref (A (b + 5)), .ref (A (b + 1)), .long co, .int pr, .int t, .int f, .int o])
theorem apre_all {V : List Value} {n : Nat} {f : Nat → Value} (h : apre V n n f) {L : List Value} (hl : L.length = n) (hf : ∀ i, i < n → L[i]? = some (f i)) : V = L := by
  refine List.ext_getElem? fun i => ?_
  by_cases hi : i < n
  · rw [h.2 i hi, hf i hi]
  · rw [List.getElem?_eq_none (by rw [h.1]; omega), List.getElem?_eq_none (by omega)]
/-- the loop -/
theorem pp_l {B : Nat} {ad A : Nat → Nat} {K : xK} {I : MI} {lf : Nat → Int32} {we : Nat → Bool} {l : List (Nat × Int32 × Bool)} {bs b : Nat} {mb : Int32} {gs VI VP : List Value} (hA : ainj A) (hB : ∀ c, B ≤ A c) (hb6 : 1000 ≤ b) (hkd : ∀ i, (I.2 i).1 < 6) (hlt : ∀ q, q ∈ l → q.1 < I.1) (hbs : bs ≤ l.length) (h4 : l.length ≤ 400) (hni : I.1 ≤ 400) (d0 : gs[0]? = some (.ref (A 7))) (d1 : gs[1]? = some (.ref (A 8))) (hVI : apre VI 400 l.length (fun k => .ref (A (100 + on_i l k)))) (hVP : apre VP 400 l.length (fun k => .int (on_p l k))) :
    ∀ d k, d + k = bs → ∀ (σ : xW) (s : Int32 × Int32 × Bool) (v8 : Value) (V4 V5 : List Value), knd σ.1 ad → (∀ i j, i < 6 → ad i ≠ A j) → σ.1 (A b) = some (pgo A b 0 0 0 0 0) → σ.1 (A 6) = some (1, gs) → σ.1 (A 7) = some (103, VI) → σ.1 (A 8) = some (100, VP) → RCI σ.1 ad A I lf we → σ.1 (A (b + 4)) = some (100, V4) → σ.1 (A (b + 5)) = some (100, V5) → apre V4 bs k (fun j => .int (nI (on_i l j))) → apre V5 bs k (fun j => .int (on_p l j)) → v8.category = 1 →
    (∀ w' v7 v8', w' (A (b + 4)) = some (100, (l.take bs).map (fun q => .int (nI q.1))) → w' (A (b + 5)) = some (100, (l.take bs).map (fun q => .int q.2.1)) → frc A [b + 4, b + 5] σ.1 w' → wX6_init B ad K 131 [.ref (A b), .ref (A 6), .int mb, .int (nI bs), .int (m_mkf (fun i => (I.2 i).1) (fun i => (I.2 i).2.1) ((l.take bs).drop k) s).1, .int (m_mkf (fun i => (I.2 i).1) (fun i => (I.2 i).2.1) ((l.take bs).drop k) s).2.1, .int (bz (m_mkf (fun i => (I.2 i).1) (fun i => (I.2 i).2.1) ((l.take bs).drop k) s).2.2), v7, v8'] [] (w', σ.2)) →
    wX6_init B ad K 46 [.ref (A b), .ref (A 6), .int mb, .int (nI bs), .int s.1, .int s.2.1, .int (bz s.2.2), .int (nI k), v8] [] σ := by
  intro d
  induction d with
  | zero =>
    intro k hk σ s v8 V4 V5 kn kA gb g6 g7 g8 gI g4 g5 p4 p5 hv8 h
    have hk' : k = bs := by omega
    subst hk'
    have t1 : (nI k).toInt = (k : Int) := nI_toInt (by omega)
    rw [eX6_init_46]
    simp only [eX6_init_48, eX6_init_49, List.getElem?_cons_zero, List.getElem?_cons_succ, Option.some.injEq, Value.int.injEq, Value.long.injEq, Value.ref.injEq, reduceCtorEq, exists_eq_left', exists_eq_left, exists_and_left, exists_and_right, and_assoc, and_true, true_and, true_or, or_true, x_rfv_ref, x_rfv_null, Prod.mk.injEq, List.set_cons_zero, List.set_cons_succ, List.length_cons, List.length_nil, Value.category, x_nl0, x_nl1, x_nl2, x_nl3, x_nl4, x_nl5, x_nl6, x_nl7, x_nl8, x_nl9, x_nl10, x_nl11, x_nl12, List.map_nil, List.map_cons, List.sum_nil, List.sum_cons, Option.toList_some, Option.toList_none, List.nil_append, List.cons_append, xl_lt, xl_gt, xl_eq, ↓reduceIte, Nat.reduceLT, Nat.reduceAdd, Nat.reduceLeDiff, x_up_self, x_uu, lt0, ln0, lx0, lt1, ln1, lx1, lt2, ln2, lx2, lt3, ln3, lx3, lt4, ln4, lx4, lt5, ln5, lx5, lt6, ln6, lx6, lt7, ln7, lx7, lt8, ln8, lx8, lt9, ln9, lx9, lt10, ln10, lx10, lt11, ln11, lx11, lt12, ln12, lx12, lt13, ln13, lx13, lt14, ln14, lx14, lt15, ln15, lx15, lt16, ln16, lx16, lt17, ln17, lx17, lt18, ln18, lx18, lt19, ln19, lx19, lt20, ln20, lx20, lt21, ln21, lx21, lt22, ln22, lx22, lt23, ln23, lx23, lt24, ln24, lx24, la0, la1, la2, la3, la4, la5, la6, la7, la8, la9, la10, la11, la12, lb0, lb1, lb2, lb3, lb4, lb5, lb6, lb7, lb8, lb9, lb10, lb11, lb12, lt60, lt400, lt900, ltm1, ltm2, ltm4, ltm10000, lt10000, lt1000000, ltm1000000, lt10000000, lt2000, lt100000, Int.toNat_natCast, i1ne0, i0eq0, Int.reduceLT, Int.reduceLE, Int.reduceToNat, Int.reduceNeg, not_true, not_false_iff, false_imp_iff, true_imp_iff, imp_self, implies_true, Option.isSome_some, Bool.false_eq_true, t1, Int.lt_irrefl]
    have hl : (l.take k).length = k := by rw [List.length_take]; omega
    have e : (l.take k).drop k = [] := List.drop_eq_nil_of_le (by omega)
    have hr := h σ.1 (.int (nI k)) v8 ?_ ?_ frc_rf
    · rw [e] at hr; exact hr
    · rw [g4, apre_all p4 (L := (l.take k).map fun q => Value.int (nI q.1)) (by rw [List.length_map]; exact hl) fun i hi => ?_]
      have him : i < l.length := by omega
      unfold on_i
      rw [List.getElem?_map, List.getElem?_take_of_lt hi, List.getD_eq_getElem?_getD, List.getElem?_eq_getElem him]; rfl
    · rw [g5, apre_all p5 (L := (l.take k).map fun q => Value.int q.2.1) (by rw [List.length_map]; exact hl) fun i hi => ?_]
      have him : i < l.length := by omega
      unfold on_p
      rw [List.getElem?_map, List.getElem?_take_of_lt hi, List.getD_eq_getElem?_getD, List.getElem?_eq_getElem him]; rfl
  | succ d ih =>
    intro m hk σ s v8 V4 V5 kn kA gb g6 g7 g8 gI g4 g5 p4 p5 hv8 h
    have t1 : (nI m).toInt = (m : Int) := nI_toInt (by omega)
    have t2 : (nI bs).toInt = (bs : Int) := nI_toInt (by omega)
    have hm : m < l.length := by omega
    obtain ⟨q, q0⟩ : ∃ q, l[m]? = some q := ⟨_, List.getElem?_eq_getElem hm⟩
    have q1 : q ∈ l := List.mem_of_getElem? q0
    have q2 : on_i l m = q.1 := by unfold on_i; rw [List.getD_eq_getElem?_getD, q0]; rfl
    have q3 : on_p l m = q.2.1 := by unfold on_p; rw [List.getD_eq_getElem?_getD, q0]; rfl
    have qn := hlt q q1
    have hv : x_ix (nI m) VI = some (.ref (A (100 + q.1))) := by
      rw [x_ix_nI (by omega), hVI.2 m (by omega)]; dsimp only; rw [q2]
    have hp : x_ix (nI m) VP = some (.int q.2.1) := by
      rw [x_ix_nI (by omega), hVP.2 m (by omega)]; dsimp only; rw [q3]
    have qt : (l.take bs)[m]? = some q := by rw [List.getElem?_take_of_lt (by omega)]; exact q0
    have ed : (l.take bs).drop m = q :: (l.take bs).drop (m + 1) := by
      have hlt' : m < (l.take bs).length := by rw [List.length_take]; omega
      rw [List.drop_eq_getElem_cons hlt']
      congr 1
      rw [List.getElem?_eq_getElem hlt'] at qt
      exact Option.some.inj qt
    obtain ⟨pl, sd, ci⟩ := gI q.1 qn
    have ci' := ci
    unfold icell at ci'
    have gb' := gb
    unfold pgo at gb'
    have i4 : (x_ix (nI m) V4).isSome := apre_some p4 (by omega) (by omega)
    have i5 : (x_ix (nI m) V5).isSome := apre_some p5 (by omega) (by omega)
    rw [eX6_init_46]
    simp only [eX6_init_48, eX6_init_49, List.getElem?_cons_zero, List.getElem?_cons_succ, Option.some.injEq, Value.int.injEq, Value.long.injEq, Value.ref.injEq, reduceCtorEq, exists_eq_left', exists_eq_left, exists_and_left, exists_and_right, and_assoc, and_true, true_and, true_or, or_true, x_rfv_ref, x_rfv_null, Prod.mk.injEq, List.set_cons_zero, List.set_cons_succ, List.length_cons, List.length_nil, Value.category, x_nl0, x_nl1, x_nl2, x_nl3, x_nl4, x_nl5, x_nl6, x_nl7, x_nl8, x_nl9, x_nl10, x_nl11, x_nl12, List.map_nil, List.map_cons, List.sum_nil, List.sum_cons, Option.toList_some, Option.toList_none, List.nil_append, List.cons_append, xl_lt, xl_gt, xl_eq, ↓reduceIte, Nat.reduceLT, Nat.reduceAdd, Nat.reduceLeDiff, x_up_self, x_uu, lt0, ln0, lx0, lt1, ln1, lx1, lt2, ln2, lx2, lt3, ln3, lx3, lt4, ln4, lx4, lt5, ln5, lx5, lt6, ln6, lx6, lt7, ln7, lx7, lt8, ln8, lx8, lt9, ln9, lx9, lt10, ln10, lx10, lt11, ln11, lx11, lt12, ln12, lx12, lt13, ln13, lx13, lt14, ln14, lx14, lt15, ln15, lx15, lt16, ln16, lx16, lt17, ln17, lx17, lt18, ln18, lx18, lt19, ln19, lx19, lt20, ln20, lx20, lt21, ln21, lx21, lt22, ln22, lx22, lt23, ln23, lx23, lt24, ln24, lx24, la0, la1, la2, la3, la4, la5, la6, la7, la8, la9, la10, la11, la12, lb0, lb1, lb2, lb3, lb4, lb5, lb6, lb7, lb8, lb9, lb10, lb11, lb12, lt60, lt400, lt900, ltm1, ltm2, ltm4, ltm10000, lt10000, lt1000000, ltm1000000, lt10000000, lt2000, lt100000, Int.toNat_natCast, i1ne0, i0eq0, Int.reduceLT, Int.reduceLE, Int.reduceToNat, Int.reduceNeg, not_true, not_false_iff, false_imp_iff, true_imp_iff, imp_self, implies_true, Option.isSome_some, Bool.false_eq_true, t1, t2]
    rw [if_pos (by omega)]
    have u4 : ∀ (w : xM) e c, c ≠ b + 4 → x_up w (A (b + 4)) e (A c) = w (A c) := fun w e c hc => x_up_ne _ _ (ainj_ne hA hc)
    have u5 : ∀ (w : xM) e c, c ≠ b + 5 → x_up w (A (b + 5)) e (A c) = w (A c) := fun w e c hc => x_up_ne _ _ (ainj_ne hA hc)
    simp only [eX6_init_52, eX6_init_53, eX6_init_56, eX6_init_58, eX6_init_59, eX6_init_61, eX6_init_62, eX6_init_65, eX6_init_67, eX6_init_69, eX6_init_72, eX6_init_73, eX6_init_74, eX6_init_77, eX6_init_79, eX6_init_80, eX6_init_83, eX6_init_85, eX6_init_86, List.getElem?_cons_zero, List.getElem?_cons_succ, Option.some.injEq, Value.int.injEq, Value.long.injEq, Value.ref.injEq, reduceCtorEq, exists_eq_left', exists_eq_left, exists_and_left, exists_and_right, and_assoc, and_true, true_and, true_or, or_true, x_rfv_ref, x_rfv_null, Prod.mk.injEq, List.set_cons_zero, List.set_cons_succ, List.length_cons, List.length_nil, Value.category, x_nl0, x_nl1, x_nl2, x_nl3, x_nl4, x_nl5, x_nl6, x_nl7, x_nl8, x_nl9, x_nl10, x_nl11, x_nl12, List.map_nil, List.map_cons, List.sum_nil, List.sum_cons, Option.toList_some, Option.toList_none, List.nil_append, List.cons_append, xl_lt, xl_gt, xl_eq, ↓reduceIte, Nat.reduceLT, Nat.reduceAdd, Nat.reduceLeDiff, x_up_self, x_uu, lt0, ln0, lx0, lt1, ln1, lx1, lt2, ln2, lx2, lt3, ln3, lx3, lt4, ln4, lx4, lt5, ln5, lx5, lt6, ln6, lx6, lt7, ln7, lx7, lt8, ln8, lx8, lt9, ln9, lx9, lt10, ln10, lx10, lt11, ln11, lx11, lt12, ln12, lx12, lt13, ln13, lx13, lt14, ln14, lx14, lt15, ln15, lx15, lt16, ln16, lx16, lt17, ln17, lx17, lt18, ln18, lx18, lt19, ln19, lx19, lt20, ln20, lx20, lt21, ln21, lx21, lt22, ln22, lx22, lt23, ln23, lx23, lt24, ln24, lx24, la0, la1, la2, la3, la4, la5, la6, la7, la8, la9, la10, la11, la12, lb0, lb1, lb2, lb3, lb4, lb5, lb6, lb7, lb8, lb9, lb10, lb11, lb12, lt60, lt400, lt900, ltm1, ltm2, ltm4, ltm10000, lt10000, lt1000000, ltm1000000, lt10000000, lt2000, lt100000, Int.toNat_natCast, i1ne0, i0eq0, Int.reduceLT, Int.reduceLE, Int.reduceToNat, Int.reduceNeg, not_true, not_false_iff, false_imp_iff, true_imp_iff, imp_self, implies_true, Option.isSome_some, Bool.false_eq_true, hv8, g6, d0, g7, hv, gb', ci', g4, i4, hB (b + 4), u4 _ _ b (by omega), u4 _ _ 6 (by omega), d1, u4 _ _ 8 (by omega), g8, hp, u4 _ _ (b + 5) (by omega), g5, i5, hB (b + 5), nI_nat (show m < 2 ^ 31 by omega)]
    have nn : nI m + 1 = nI (m + 1) := nI_1 _
    have gen : ∀ w1 : xM, frc A [b + 4, b + 5] σ.1 w1 → w1 (A (b + 4)) = some (100, V4.set m (.int (nI q.1))) → w1 (A (b + 5)) = some (100, V5.set m (.int q.2.1)) → wX6_init B ad K 87 [.ref (A b), .ref (A 6), .int mb, .int (nI bs), .int s.1, .int s.2.1, .int (bz s.2.2), .int (nI m), .ref (A (100 + q.1))] [] (w1, σ.2) := by
      intro w1 kf k4 k5
      have fA : ∀ c, c ≠ b + 4 → c ≠ b + 5 → w1 (A c) = σ.1 (A c) := fun c c4 c5 => frc_at hA kf (by simp; omega)
      have kc := (fA (100 + q.1) (by omega) (by omega)).trans ci'
      have kn1 : knd w1 ad := knd_frm kn fun j hj => kf _ fun c _ => kA j c hj
      have ek : (ad (I.2 q.1).1 = ad 5) = ((I.2 q.1).1 = 5) := knd_eq kn1 (hkd q.1) (by decide)
      have go : ∀ s' : Int32 × Int32 × Bool, s' = m_mk1 (fun i => (I.2 i).1) (fun i => (I.2 i).2.1) q.1 s → wX6_init B ad K 125 [.ref (A b), .ref (A 6), .int mb, .int (nI bs), .int s'.1, .int s'.2.1, .int (bz s'.2.2), .int (nI m), .ref (A (100 + q.1))] [] (w1, σ.2) := by
        intro s' hs'
        simp only [eX6_init_125, eX6_init_128, List.getElem?_cons_zero, List.getElem?_cons_succ, Option.some.injEq, Value.int.injEq, Value.long.injEq, Value.ref.injEq, reduceCtorEq, exists_eq_left', exists_eq_left, exists_and_left, exists_and_right, and_assoc, and_true, true_and, true_or, or_true, x_rfv_ref, x_rfv_null, Prod.mk.injEq, List.set_cons_zero, List.set_cons_succ, List.length_cons, List.length_nil, Value.category, x_nl0, x_nl1, x_nl2, x_nl3, x_nl4, x_nl5, x_nl6, x_nl7, x_nl8, x_nl9, x_nl10, x_nl11, x_nl12, List.map_nil, List.map_cons, List.sum_nil, List.sum_cons, Option.toList_some, Option.toList_none, List.nil_append, List.cons_append, xl_lt, xl_gt, xl_eq, ↓reduceIte, Nat.reduceLT, Nat.reduceAdd, Nat.reduceLeDiff, x_up_self, x_uu, lt0, ln0, lx0, lt1, ln1, lx1, lt2, ln2, lx2, lt3, ln3, lx3, lt4, ln4, lx4, lt5, ln5, lx5, lt6, ln6, lx6, lt7, ln7, lx7, lt8, ln8, lx8, lt9, ln9, lx9, lt10, ln10, lx10, lt11, ln11, lx11, lt12, ln12, lx12, lt13, ln13, lx13, lt14, ln14, lx14, lt15, ln15, lx15, lt16, ln16, lx16, lt17, ln17, lx17, lt18, ln18, lx18, lt19, ln19, lx19, lt20, ln20, lx20, lt21, ln21, lx21, lt22, ln22, lx22, lt23, ln23, lx23, lt24, ln24, lx24, la0, la1, la2, la3, la4, la5, la6, la7, la8, la9, la10, la11, la12, lb0, lb1, lb2, lb3, lb4, lb5, lb6, lb7, lb8, lb9, lb10, lb11, lb12, lt60, lt400, lt900, ltm1, ltm2, ltm4, ltm10000, lt10000, lt1000000, ltm1000000, lt10000000, lt2000, lt100000, Int.toNat_natCast, i1ne0, i0eq0, Int.reduceLT, Int.reduceLE, Int.reduceToNat, Int.reduceNeg, not_true, not_false_iff, false_imp_iff, true_imp_iff, imp_self, implies_true, Option.isSome_some, Bool.false_eq_true, nn]
        refine ih (m + 1) (by omega) (w1, σ.2) s' _ (V4.set m (.int (nI q.1))) (V5.set m (.int q.2.1)) kn1 kA ((fA b (by omega) (by omega)).trans gb) ((fA 6 (by omega) (by omega)).trans g6) ((fA 7 (by omega) (by omega)).trans g7) ((fA 8 (by omega) (by omega)).trans g8) (fun j hj => ?_) k4 k5 ?_ ?_ rfl fun w' v7 v8' h4' h5' hf' => ?_
        · obtain ⟨pl, sd, e⟩ := gI j hj
          exact ⟨pl, sd, (fA _ (by omega) (by omega)).trans e⟩
        · refine apre_congr (apre_push p4 (by omega)) fun j hj => ?_
          split
          · rename_i z; rw [z, q2]
          · rfl
        · refine apre_congr (apre_push p5 (by omega)) fun j hj => ?_
          split
          · rename_i z; rw [z, q3]
          · rfl
        · have hr := h w' v7 v8' h4' h5' fun x hx => (hf' x hx).trans (kf x hx)
          rw [ed] at hr
          rw [hs']
          exact hr
      simp only [eX6_init_87, eX6_init_89, eX6_init_92, eX6_init_95, List.getElem?_cons_zero, List.getElem?_cons_succ, Option.some.injEq, Value.int.injEq, Value.long.injEq, Value.ref.injEq, reduceCtorEq, exists_eq_left', exists_eq_left, exists_and_left, exists_and_right, and_assoc, and_true, true_and, true_or, or_true, x_rfv_ref, x_rfv_null, Prod.mk.injEq, List.set_cons_zero, List.set_cons_succ, List.length_cons, List.length_nil, Value.category, x_nl0, x_nl1, x_nl2, x_nl3, x_nl4, x_nl5, x_nl6, x_nl7, x_nl8, x_nl9, x_nl10, x_nl11, x_nl12, List.map_nil, List.map_cons, List.sum_nil, List.sum_cons, Option.toList_some, Option.toList_none, List.nil_append, List.cons_append, xl_lt, xl_gt, xl_eq, ↓reduceIte, Nat.reduceLT, Nat.reduceAdd, Nat.reduceLeDiff, x_up_self, x_uu, lt0, ln0, lx0, lt1, ln1, lx1, lt2, ln2, lx2, lt3, ln3, lx3, lt4, ln4, lx4, lt5, ln5, lx5, lt6, ln6, lx6, lt7, ln7, lx7, lt8, ln8, lx8, lt9, ln9, lx9, lt10, ln10, lx10, lt11, ln11, lx11, lt12, ln12, lx12, lt13, ln13, lx13, lt14, ln14, lx14, lt15, ln15, lx15, lt16, ln16, lx16, lt17, ln17, lx17, lt18, ln18, lx18, lt19, ln19, lx19, lt20, ln20, lx20, lt21, ln21, lx21, lt22, ln22, lx22, lt23, ln23, lx23, lt24, ln24, lx24, la0, la1, la2, la3, la4, la5, la6, la7, la8, la9, la10, la11, la12, lb0, lb1, lb2, lb3, lb4, lb5, lb6, lb7, lb8, lb9, lb10, lb11, lb12, lt60, lt400, lt900, ltm1, ltm2, ltm4, ltm10000, lt10000, lt1000000, ltm1000000, lt10000000, lt2000, lt100000, Int.toNat_natCast, i1ne0, i0eq0, Int.reduceLT, Int.reduceLE, Int.reduceToNat, Int.reduceNeg, not_true, not_false_iff, false_imp_iff, true_imp_iff, imp_self, implies_true, Option.isSome_some, Bool.false_eq_true, kc, ek]
      by_cases z : (I.2 q.1).1 = 5
      · rw [if_pos z]
        have ev : it_val (I.2 q.1) = (I.2 q.1).2.1 := by unfold it_val; rw [if_neg (by omega)]
        cases hs : s.2.2 with
        | true =>
          simp only [eX6_init_98, eX6_init_100, eX6_init_103, eX6_init_105, eX6_init_108, eX6_init_110, eX6_init_113, eX6_init_115, eX6_init_117, eX6_init_120, eX6_init_122, eX6_init_123, List.getElem?_cons_zero, List.getElem?_cons_succ, Option.some.injEq, Value.int.injEq, Value.long.injEq, Value.ref.injEq, reduceCtorEq, exists_eq_left', exists_eq_left, exists_and_left, exists_and_right, and_assoc, and_true, true_and, true_or, or_true, x_rfv_ref, x_rfv_null, Prod.mk.injEq, List.set_cons_zero, List.set_cons_succ, List.length_cons, List.length_nil, Value.category, x_nl0, x_nl1, x_nl2, x_nl3, x_nl4, x_nl5, x_nl6, x_nl7, x_nl8, x_nl9, x_nl10, x_nl11, x_nl12, List.map_nil, List.map_cons, List.sum_nil, List.sum_cons, Option.toList_some, Option.toList_none, List.nil_append, List.cons_append, xl_lt, xl_gt, xl_eq, ↓reduceIte, Nat.reduceLT, Nat.reduceAdd, Nat.reduceLeDiff, x_up_self, x_uu, lt0, ln0, lx0, lt1, ln1, lx1, lt2, ln2, lx2, lt3, ln3, lx3, lt4, ln4, lx4, lt5, ln5, lx5, lt6, ln6, lx6, lt7, ln7, lx7, lt8, ln8, lx8, lt9, ln9, lx9, lt10, ln10, lx10, lt11, ln11, lx11, lt12, ln12, lx12, lt13, ln13, lx13, lt14, ln14, lx14, lt15, ln15, lx15, lt16, ln16, lx16, lt17, ln17, lx17, lt18, ln18, lx18, lt19, ln19, lx19, lt20, ln20, lx20, lt21, ln21, lx21, lt22, ln22, lx22, lt23, ln23, lx23, lt24, ln24, lx24, la0, la1, la2, la3, la4, la5, la6, la7, la8, la9, la10, la11, la12, lb0, lb1, lb2, lb3, lb4, lb5, lb6, lb7, lb8, lb9, lb10, lb11, lb12, lt60, lt400, lt900, ltm1, ltm2, ltm4, ltm10000, lt10000, lt1000000, ltm1000000, lt10000000, lt2000, lt100000, Int.toNat_natCast, i1ne0, i0eq0, Int.reduceLT, Int.reduceLE, Int.reduceToNat, Int.reduceNeg, not_true, not_false_iff, false_imp_iff, true_imp_iff, imp_self, implies_true, Option.isSome_some, Bool.false_eq_true, kc, bzt, ev]
          refine go (s.1, (I.2 q.1).2.1, true) ?_
          unfold m_mk1
          rw [if_pos z, hs]; rfl
        | false =>
          simp only [eX6_init_98, eX6_init_100, eX6_init_103, eX6_init_105, eX6_init_108, eX6_init_110, eX6_init_113, eX6_init_115, eX6_init_117, eX6_init_120, eX6_init_122, eX6_init_123, List.getElem?_cons_zero, List.getElem?_cons_succ, Option.some.injEq, Value.int.injEq, Value.long.injEq, Value.ref.injEq, reduceCtorEq, exists_eq_left', exists_eq_left, exists_and_left, exists_and_right, and_assoc, and_true, true_and, true_or, or_true, x_rfv_ref, x_rfv_null, Prod.mk.injEq, List.set_cons_zero, List.set_cons_succ, List.length_cons, List.length_nil, Value.category, x_nl0, x_nl1, x_nl2, x_nl3, x_nl4, x_nl5, x_nl6, x_nl7, x_nl8, x_nl9, x_nl10, x_nl11, x_nl12, List.map_nil, List.map_cons, List.sum_nil, List.sum_cons, Option.toList_some, Option.toList_none, List.nil_append, List.cons_append, xl_lt, xl_gt, xl_eq, ↓reduceIte, Nat.reduceLT, Nat.reduceAdd, Nat.reduceLeDiff, x_up_self, x_uu, lt0, ln0, lx0, lt1, ln1, lx1, lt2, ln2, lx2, lt3, ln3, lx3, lt4, ln4, lx4, lt5, ln5, lx5, lt6, ln6, lx6, lt7, ln7, lx7, lt8, ln8, lx8, lt9, ln9, lx9, lt10, ln10, lx10, lt11, ln11, lx11, lt12, ln12, lx12, lt13, ln13, lx13, lt14, ln14, lx14, lt15, ln15, lx15, lt16, ln16, lx16, lt17, ln17, lx17, lt18, ln18, lx18, lt19, ln19, lx19, lt20, ln20, lx20, lt21, ln21, lx21, lt22, ln22, lx22, lt23, ln23, lx23, lt24, ln24, lx24, la0, la1, la2, la3, la4, la5, la6, la7, la8, la9, la10, la11, la12, lb0, lb1, lb2, lb3, lb4, lb5, lb6, lb7, lb8, lb9, lb10, lb11, lb12, lt60, lt400, lt900, ltm1, ltm2, ltm4, ltm10000, lt10000, lt1000000, ltm1000000, lt10000000, lt2000, lt100000, Int.toNat_natCast, i1ne0, i0eq0, Int.reduceLT, Int.reduceLE, Int.reduceToNat, Int.reduceNeg, not_true, not_false_iff, false_imp_iff, true_imp_iff, imp_self, implies_true, Option.isSome_some, Bool.false_eq_true, kc, bzf, ev]
          refine go ((I.2 q.1).2.1, (I.2 q.1).2.1, true) ?_
          unfold m_mk1
          rw [if_pos z, hs]; rfl
      · rw [if_neg z]
        refine go s ?_
        unfold m_mk1
        rw [if_neg z]
    refine gen _ (frc_up (frc_up frc_rf (by simp)) (by simp)) ?_ ?_
    · rw [u5 _ _ _ (by omega), x_up_self]
    · rw [x_up_self]
