/-! THE CLASS: an item goes on the page -/
theorem onI_l {l : List (Nat × Int32 × Bool)} {q : Nat × Int32 × Bool} {k : Nat} (h : k < l.length) : on_i (l ++ [q]) k = on_i l k ∧ on_p (l ++ [q]) k = on_p l k := by
  unfold on_i on_p
  rw [List.getD_eq_getElem?_getD, List.getD_eq_getElem?_getD, List.getElem?_append_left h]
  exact ⟨rfl, rfl⟩
theorem onI_r {l : List (Nat × Int32 × Bool)} {q : Nat × Int32 × Bool} : on_i (l ++ [q]) l.length = q.1 ∧ on_p (l ++ [q]) l.length = q.2.1 := by
  unfold on_i on_p
  rw [List.getD_eq_getElem?_getD, List.getElem?_append_right (Nat.le_refl _), Nat.sub_self]
  exact ⟨rfl, rfl⟩
theorem put_o {S : MS} (hi : iv S) (hk : m_kd S (m_hd S) ≠ 4) : (m_put S).2.2.2.2.1 = (S.2.2.2.2.1.1 ++ [(m_hd S, 0, false)], c_hb S.2.2.2.2.1.2.1 (S.1.2 (m_hd S)), c_kst S.2.2.2.2.1.2.2.1 S.2.2.2.2.1.2.1 S.2.2.2.2.1.2.2.2.2.1.toInt64 S.2.2.2.2.1.2.2.2.1.toInt64 (S.1.2 (m_hd S)), S.2.2.2.2.1.2.2.2) := by
  have t := iv_it hi (m_hd S)
  have hT := hi.2.1.2.1
  show (m_psh (m_meet S (m_hd S)).1 (m_meet S (m_hd S)).2).2.2.2.2.1 = _
  unfold m_meet
  by_cases q0 : m_kd S (m_hd S) = 0
  · rw [if_pos q0, cb_eq t q0 hT.2.2]
    unfold c_hb
    rw [if_pos (show (S.1.2 (m_hd S)).1 = 0 from q0)]; rfl
  · have eh : c_hb S.2.2.2.2.1.2.1 (S.1.2 (m_hd S)) = S.2.2.2.2.1.2.1 := if_neg q0
    rw [if_neg q0, eh]
    by_cases q1 : m_kd S (m_hd S) = 1
    · rw [if_pos q1, cg_eq t q1 hT.2.1.1]; rfl
    · rw [if_neg q1]
      by_cases q2 : m_kd S (m_hd S) = 2
      · rw [if_pos q2, ck_eq q2]; rfl
      · rw [if_neg q2, if_neg hk]
        have : c_kst S.2.2.2.2.1.2.2.1 S.2.2.2.2.1.2.1 S.2.2.2.2.1.2.2.2.2.1.toInt64 S.2.2.2.2.1.2.2.2.1.toInt64 (S.1.2 (m_hd S)) = S.2.2.2.2.1.2.2.1 := by
          unfold c_kst
          rw [if_neg (show ¬ (S.1.2 (m_hd S)).1 = 0 from q0), if_neg (show ¬ (S.1.2 (m_hd S)).1 = 1 from q1), if_neg (show ¬ (S.1.2 (m_hd S)).1 = 2 from q2)]
        rw [this]; rfl
theorem put_oth {S : MS} : (m_put S).1 = S.1 ∧ (m_put S).2.1 = S.2.1 ∧ (m_put S).2.2.1 = S.2.2.1 ∧ (m_put S).2.2.2.1 = (S.2.2.2.1.1.tail, S.2.2.2.1.2) ∧ (m_put S).2.2.2.2.2 = S.2.2.2.2.2 := by
  obtain ⟨e1, e2, e3, e4, -, e6, -⟩ := meet_eq S (m_hd S)
  refine ⟨e1, e2, e3, ?_, e6⟩
  show ((m_meet S (m_hd S)).1.2.2.2.1.1.tail, (m_meet S (m_hd S)).1.2.2.2.1.2) = _
  rw [e4]
theorem put_i {S : MS} (hk : m_kd S (m_hd S) = 4) : (m_put S).2.2.2.2.1 = (S.2.2.2.2.1.1 ++ [(m_hd S, (i_pt S (S.1.2 (m_hd S)).2.1.toInt.toNat (S.2.2.2.1.2.1 (m_hd S)) (decide ((S.1.2 (m_hd S)).2.2.2.1 = 1))).toInt32, !(i_sd S (S.1.2 (m_hd S)).2.1.toInt.toNat (S.2.2.2.1.2.1 (m_hd S))))], (m_ins S (S.1.2 (m_hd S)).2.1.toInt.toNat (S.2.2.2.1.2.1 (m_hd S)) (decide ((S.1.2 (m_hd S)).2.2.2.1 = 1))).2.2.2.2.1.2) := by
  show (m_psh (m_meet S (m_hd S)).1 (m_meet S (m_hd S)).2).2.2.2.2.1 = _
  unfold m_meet
  rw [if_neg (by omega), if_neg (by omega), if_neg (by omega), if_pos hk]
  rfl
/-- takeFirst and put -/
theorem s_stepPut {B : Nat} {ad A : Nat → Nat} {S : MS} {σ : xW} {K : xK} {nv : Value} (hi : iv S) (hA : ainj A) (hB : ∀ c, B ≤ A c) (kn : knd σ.1 ad) (kA : ∀ i j, i < 6 → ad i ≠ A j) (hne : S.2.2.2.1.1 ≠ []) (hR : RC σ.1 ad A S) (h : ∀ w', RC w' ad A (m_put S) → frS A S σ.2.1 σ.1 w' → K (some (.int 1)) (w', σ.2)) : wX7_takeStep B ad K 107 [.ref (A 0), .ref (A (100 + m_hd S)), nv] [] σ := by
  have hlen := iv_len2 hi
  have hni := hi.1.1
  have hhd := iv_lt hi (hd_all hne)
  have t := iv_it hi (m_hd S)
  have hps : S.2.2.2.2.1.1.length < 400 := by
    have : S.2.2.2.1.1.length ≠ 0 := fun q => hne (List.eq_nil_of_length_eq_zero q)
    omega
  obtain ⟨g0, gi, gc, gp, ⟨V, hn, gl⟩, ⟨VI, VP, co, bs, bp, bst, gd, d2, d3, d4, d5⟩, gI, gC, gP⟩ := hR
  have h0 := g0
  unfold pbc at h0
  have ecn := hd_cons hne
  rw [ecn, List.map_cons] at gl
  have l1 := gl.1
  simp only [eX7_takeStep_107, eX7_takeStep_108, eX7_takeStep_111, List.getElem?_cons_zero, List.getElem?_cons_succ, Option.some.injEq, Value.int.injEq, Value.long.injEq, Value.ref.injEq, reduceCtorEq, exists_eq_left', exists_eq_left, exists_and_left, exists_and_right, and_assoc, and_true, true_and, true_or, or_true, x_rfv_ref, x_rfv_null, Prod.mk.injEq, List.set_cons_zero, List.set_cons_succ, List.length_cons, List.length_nil, Value.category, x_nl0, x_nl1, x_nl2, x_nl3, x_nl4, x_nl5, x_nl6, x_nl7, x_nl8, x_nl9, x_nl10, x_nl11, x_nl12, List.map_nil, List.map_cons, List.sum_nil, List.sum_cons, Option.toList_some, Option.toList_none, List.nil_append, List.cons_append, xl_lt, xl_gt, xl_eq, ↓reduceIte, Nat.reduceLT, Nat.reduceAdd, Nat.reduceLeDiff, x_up_self, x_uu, lt0, ln0, lx0, lt1, ln1, lx1, lt2, ln2, lx2, lt3, ln3, lx3, lt4, ln4, lx4, lt5, ln5, lx5, lt6, ln6, lx6, lt7, ln7, lx7, lt8, ln8, lx8, lt9, ln9, lx9, lt10, ln10, lx10, lt11, ln11, lx11, lt12, ln12, lx12, lt13, ln13, lx13, lt14, ln14, lx14, lt15, ln15, lx15, lt16, ln16, lx16, lt17, ln17, lx17, lt18, ln18, lx18, lt19, ln19, lx19, lt20, ln20, lx20, lt21, ln21, lx21, lt22, ln22, lx22, lt23, ln23, lx23, lt24, ln24, lx24, la0, la1, la2, la3, la4, la5, la6, la7, la8, la9, la10, la11, la12, lb0, lb1, lb2, lb3, lb4, lb5, lb6, lb7, lb8, lb9, lb10, lb11, lb12, lt60, lt400, lt900, ltm1, ltm2, ltm4, ltm10000, lt10000, lt1000000, ltm1000000, lt10000000, lt2000, lt100000, Int.toNat_natCast, i1ne0, i0eq0, Int.reduceLT, Int.reduceLE, Int.reduceToNat, Int.reduceNeg, not_true, not_false_iff, false_imp_iff, true_imp_iff, imp_self, implies_true, Option.isSome_some, Bool.false_eq_true, h0, x_clv l1]
  refine s_takeFirst gl (hB 4) fun w1 hl1 hf1 => ?_
  have f1 : ∀ c, c ≠ 4 → w1 (A c) = σ.1 (A c) := fun c hc => hf1 _ (ainj_ne hA hc)
  have k0 := (f1 0 (by omega)).trans h0
  have kd1 := drc_mv (A' := A) (w' := w1) gd (fun c c1 c2 => f1 c (by omega)) fun _ _ _ => rfl
  have kn1 : knd w1 ad := knd_frm kn fun j hj => hf1 _ (kA j 4 hj)
  obtain ⟨pl, sd, ci⟩ := gI _ hhd
  have ci1 := (f1 (100 + m_hd S) (by omega)).trans ci
  simp only [eX7_takeStep_114, eX7_takeStep_115, eX7_takeStep_116, eX7_takeStep_119, eX7_takeStep_120, List.getElem?_cons_zero, List.getElem?_cons_succ, Option.some.injEq, Value.int.injEq, Value.long.injEq, Value.ref.injEq, reduceCtorEq, exists_eq_left', exists_eq_left, exists_and_left, exists_and_right, and_assoc, and_true, true_and, true_or, or_true, x_rfv_ref, x_rfv_null, Prod.mk.injEq, List.set_cons_zero, List.set_cons_succ, List.length_cons, List.length_nil, Value.category, x_nl0, x_nl1, x_nl2, x_nl3, x_nl4, x_nl5, x_nl6, x_nl7, x_nl8, x_nl9, x_nl10, x_nl11, x_nl12, List.map_nil, List.map_cons, List.sum_nil, List.sum_cons, Option.toList_some, Option.toList_none, List.nil_append, List.cons_append, xl_lt, xl_gt, xl_eq, ↓reduceIte, Nat.reduceLT, Nat.reduceAdd, Nat.reduceLeDiff, x_up_self, x_uu, lt0, ln0, lx0, lt1, ln1, lx1, lt2, ln2, lx2, lt3, ln3, lx3, lt4, ln4, lx4, lt5, ln5, lx5, lt6, ln6, lx6, lt7, ln7, lx7, lt8, ln8, lx8, lt9, ln9, lx9, lt10, ln10, lx10, lt11, ln11, lx11, lt12, ln12, lx12, lt13, ln13, lx13, lt14, ln14, lx14, lt15, ln15, lx15, lt16, ln16, lx16, lt17, ln17, lx17, lt18, ln18, lx18, lt19, ln19, lx19, lt20, ln20, lx20, lt21, ln21, lx21, lt22, ln22, lx22, lt23, ln23, lx23, lt24, ln24, lx24, la0, la1, la2, la3, la4, la5, la6, la7, la8, la9, la10, la11, la12, lb0, lb1, lb2, lb3, lb4, lb5, lb6, lb7, lb8, lb9, lb10, lb11, lb12, lt60, lt400, lt900, ltm1, ltm2, ltm4, ltm10000, lt10000, lt1000000, ltm1000000, lt10000000, lt2000, lt100000, Int.toNat_natCast, i1ne0, i0eq0, Int.reduceLT, Int.reduceLE, Int.reduceToNat, Int.reduceNeg, not_true, not_false_iff, false_imp_iff, true_imp_iff, imp_self, implies_true, Option.isSome_some, Bool.false_eq_true, k0, x_clvp kd1.1]
  obtain ⟨o1, o2, o3, o4, o5⟩ := put_oth (S := S)
  -- what stays
  have fin : ∀ w' : xM, frm A 6 16 w1 w' → RCd w' A (m_put S).2.2.2.2.1 S.2.2.2.2.2.1 → K (some (.int 1)) (w', σ.2) := by
    intro w' hf hd
    have fA : ∀ c, c ≠ 4 → (c < 6 ∨ 16 < c) → w' (A c) = σ.1 (A c) := fun c c4 c6 => (frm_at hA hf c6).trans (f1 c c4)
    refine h w' ⟨?_, ?_, ?_, ?_, ?_, ?_, ?_, ?_, ?_⟩ fun q hq hu => ?_
    · rw [fA 0 (by omega) (by omega), g0]
      unfold pbc
      rw [o1, o2, o3, o5]
    · rw [o1]; exact RCi_mv gi (fA 1 (by omega) (by omega)) fun _ _ => rfl
    · rw [o2]; exact RCc_mv gc (fA 2 (by omega) (by omega)) fun _ _ => rfl
    · rw [o5]; exact RCp_mv gp (fA 3 (by omega) (by omega)) fun _ _ => rfl
    · rw [o4]
      exact RCl_mv ⟨V, (hn + 1) % 400, hl1⟩ (fun c hc => frm_at hA hf (by omega)) rfl fun _ _ => rfl
    · rw [o5]; exact hd
    · rw [o1, o4]; exact RCI_mv gI hi.1.2.2.1 hi.1.2.1 (fun i _ => fA _ (by omega) (by omega)) fun _ _ => rfl
    · rw [o2]; exact RCC_mv gC fun k _ => fA _ (by omega) (by omega)
    · rw [o5]; exact RCP_mv gP (fun c h1 h2 => fA c (by omega) (by omega)) fun _ _ _ => rfl
    · rw [hf q fun c _ c2 => hu c (us_le c2), hf1 q (hu 4 (us_le (by decide)))]
  have pI : ∀ x : Nat × Int32 × Bool, x.1 = m_hd S → apre (VI.set S.2.2.2.2.1.1.length (.ref (A (100 + m_hd S)))) 400 (S.2.2.2.2.1.1 ++ [x]).length (fun k => .ref (A (100 + on_i (S.2.2.2.2.1.1 ++ [x]) k))) := fun x hx => by
    rw [List.length_append]
    refine apre_congr (apre_push d2 hps) fun k hk => ?_
    have hk' : k < S.2.2.2.2.1.1.length + 1 := hk
    by_cases z : k = S.2.2.2.2.1.1.length
    · rw [if_pos z, z, onI_r.1, hx]
    · rw [if_neg z, (onI_l (by omega)).1]
  have pP : ∀ x : Nat × Int32 × Bool, apre (VP.set S.2.2.2.2.1.1.length (.int x.2.1)) 400 (S.2.2.2.2.1.1 ++ [x]).length (fun k => .int (on_p (S.2.2.2.2.1.1 ++ [x]) k)) := fun x => by
    rw [List.length_append]
    refine apre_congr (apre_push d3 hps) fun k hk => ?_
    have hk' : k < S.2.2.2.2.1.1.length + 1 := hk
    by_cases z : k = S.2.2.2.2.1.1.length
    · rw [if_pos z, z, onI_r.2]
    · rw [if_neg z, (onI_l (by omega)).2]
  by_cases k4 : m_kd S (m_hd S) = 4
  · obtain ⟨c1, c2, c3⟩ := ins_c hi k4
    have hlf := iv_left hi (hd_all hne) k4
    have hcu := (t.2.2.2.2.2 k4).2.2.2
    have ecut : it_cut (S.1.2 (m_hd S)) = (S.1.2 (m_hd S)).2.2.2.1 := if_pos k4
    have hcc := gC _ c1
    unfold ccell at hcc
    refine s_putCi (σ := (w1, σ.2)) hA (fun i _ _ => hB i) kn1 kA c2 hps d2.1 d3.1 kd1 ci1 k4 c3 ((f1 _ (by omega)).trans hcc) fun w' part hpart hd hf => ?_
    rw [ecut] at hpart
    obtain ⟨z1, z2, z3⟩ := cs_eq (by omega) hi.2.1.1 c2 (hi.1.2.2.2.1 _) hlf.1 hlf.2 hcu part hpart
    simp only [eX7_takeStep_0, eX7_takeStep_1, eX7_takeStep_4, eX7_takeStep_5, eX7_takeStep_8, eX7_takeStep_9, eX7_takeStep_10, eX7_takeStep_13, eX7_takeStep_14, eX7_takeStep_17, eX7_takeStep_19, eX7_takeStep_22, eX7_takeStep_23, eX7_takeStep_24, eX7_takeStep_25, eX7_takeStep_28, eX7_takeStep_31, eX7_takeStep_34, eX7_takeStep_35, eX7_takeStep_38, eX7_takeStep_41, eX7_takeStep_44, eX7_takeStep_45, eX7_takeStep_48, eX7_takeStep_49, eX7_takeStep_50, eX7_takeStep_51, eX7_takeStep_54, eX7_takeStep_55, eX7_takeStep_58, eX7_takeStep_59, eX7_takeStep_60, eX7_takeStep_63, eX7_takeStep_66, eX7_takeStep_69, eX7_takeStep_70, eX7_takeStep_73, eX7_takeStep_74, eX7_takeStep_75, eX7_takeStep_76, eX7_takeStep_79, eX7_takeStep_80, eX7_takeStep_81, eX7_takeStep_84, eX7_takeStep_87, eX7_takeStep_88, eX7_takeStep_91, eX7_takeStep_92, eX7_takeStep_95, eX7_takeStep_98, eX7_takeStep_101, eX7_takeStep_102, eX7_takeStep_105, eX7_takeStep_106, eX7_takeStep_107, eX7_takeStep_108, eX7_takeStep_111, eX7_takeStep_114, eX7_takeStep_115, eX7_takeStep_116, eX7_takeStep_119, eX7_takeStep_120, eX7_takeStep_123, eX7_takeStep_124, List.getElem?_cons_zero, List.getElem?_cons_succ, Option.some.injEq, Value.int.injEq, Value.long.injEq, Value.ref.injEq, reduceCtorEq, exists_eq_left', exists_eq_left, exists_and_left, exists_and_right, and_assoc, and_true, true_and, true_or, or_true, x_rfv_ref, x_rfv_null, Prod.mk.injEq, List.set_cons_zero, List.set_cons_succ, List.length_cons, List.length_nil, Value.category, x_nl0, x_nl1, x_nl2, x_nl3, x_nl4, x_nl5, x_nl6, x_nl7, x_nl8, x_nl9, x_nl10, x_nl11, x_nl12, List.map_nil, List.map_cons, List.sum_nil, List.sum_cons, Option.toList_some, Option.toList_none, List.nil_append, List.cons_append, xl_lt, xl_gt, xl_eq, ↓reduceIte, Nat.reduceLT, Nat.reduceAdd, Nat.reduceLeDiff, x_up_self, x_uu, lt0, ln0, lx0, lt1, ln1, lx1, lt2, ln2, lx2, lt3, ln3, lx3, lt4, ln4, lx4, lt5, ln5, lx5, lt6, ln6, lx6, lt7, ln7, lx7, lt8, ln8, lx8, lt9, ln9, lx9, lt10, ln10, lx10, lt11, ln11, lx11, lt12, ln12, lx12, lt13, ln13, lx13, lt14, ln14, lx14, lt15, ln15, lx15, lt16, ln16, lx16, lt17, ln17, lx17, lt18, ln18, lx18, lt19, ln19, lx19, lt20, ln20, lx20, lt21, ln21, lx21, lt22, ln22, lx22, lt23, ln23, lx23, lt24, ln24, lx24, la0, la1, la2, la3, la4, la5, la6, la7, la8, la9, la10, la11, la12, lb0, lb1, lb2, lb3, lb4, lb5, lb6, lb7, lb8, lb9, lb10, lb11, lb12, lt60, lt400, lt900, ltm1, ltm2, ltm4, ltm10000, lt10000, lt1000000, ltm1000000, lt10000000, lt2000, lt100000, Int.toNat_natCast, i1ne0, i0eq0, Int.reduceLT, Int.reduceLE, Int.reduceToNat, Int.reduceNeg, not_true, not_false_iff, false_imp_iff, true_imp_iff, imp_self, implies_true, Option.isSome_some, Bool.false_eq_true]
    refine fin w' hf ?_
    rw [put_i k4]
    refine ⟨_, _, co, bs, bp, bst, ?_, pI _ rfl, pP _, d4, d5⟩
    rw [z3] at hd
    have e1 : (S.2.2.2.2.1.1 ++ [(m_hd S, (i_pt S (S.1.2 (m_hd S)).2.1.toInt.toNat (S.2.2.2.1.2.1 (m_hd S)) (decide ((S.1.2 (m_hd S)).2.2.2.1 = 1))).toInt32, !(i_sd S (S.1.2 (m_hd S)).2.1.toInt.toNat (S.2.2.2.1.2.1 (m_hd S))))]).length = S.2.2.2.2.1.1.length + 1 := by rw [List.length_append]; rfl
    rw [e1, ← z1]
    have e2 : (if part.toInt < (S.2.2.2.1.2.1 (m_hd S)).toInt then S.2.2.2.2.1.2.2.2.2.2.1 + (S.2.1.2 (S.1.2 (m_hd S)).2.1.toInt.toNat).2.2.2.toInt64 else S.2.2.2.2.1.2.2.2.2.2.1) = (m_ins S (S.1.2 (m_hd S)).2.1.toInt.toNat (S.2.2.2.1.2.1 (m_hd S)) (decide ((S.1.2 (m_hd S)).2.2.2.1 = 1))).2.2.2.2.1.2.2.2.2.2.1 := by
      show _ = (if i_sd S (S.1.2 (m_hd S)).2.1.toInt.toNat (S.2.2.2.1.2.1 (m_hd S)) = true then S.2.2.2.2.1.2.2.2.2.2.1 else S.2.2.2.2.1.2.2.2.2.2.1 + (S.2.1.2 (S.1.2 (m_hd S)).2.1.toInt.toNat).2.2.2.toInt64)
      cases hsd : i_sd S (S.1.2 (m_hd S)).2.1.toInt.toNat (S.2.2.2.1.2.1 (m_hd S)) with
      | true => rw [if_neg (fun y => by rw [z2.mp y] at hsd; cases hsd), if_pos rfl]
      | false => rw [if_pos (z2.mpr hsd), if_neg (by simp)]
    have e3 : (if part.toInt < (S.2.2.2.1.2.1 (m_hd S)).toInt then ub32 (fun j => bz (S.2.2.2.2.1.2.2.2.2.2.2.2 j)) (S.1.2 (m_hd S)).2.1.toInt.toNat else fun j => bz (S.2.2.2.2.1.2.2.2.2.2.2.2 j)) = fun j => bz ((m_ins S (S.1.2 (m_hd S)).2.1.toInt.toNat (S.2.2.2.1.2.1 (m_hd S)) (decide ((S.1.2 (m_hd S)).2.2.2.1 = 1))).2.2.2.2.1.2.2.2.2.2.2.2 j) := by
      have em : (m_ins S (S.1.2 (m_hd S)).2.1.toInt.toNat (S.2.2.2.1.2.1 (m_hd S)) (decide ((S.1.2 (m_hd S)).2.2.2.1 = 1))).2.2.2.2.1.2.2.2.2.2.2.2 = (if i_sd S (S.1.2 (m_hd S)).2.1.toInt.toNat (S.2.2.2.1.2.1 (m_hd S)) = true then S.2.2.2.2.1.2.2.2.2.2.2.2 else ub S.2.2.2.2.1.2.2.2.2.2.2.2 (S.1.2 (m_hd S)).2.1.toInt.toNat) := rfl
      rw [em]
      cases hsd : i_sd S (S.1.2 (m_hd S)).2.1.toInt.toNat (S.2.2.2.1.2.1 (m_hd S)) with
      | true => rw [if_neg (fun y => by rw [z2.mp y] at hsd; cases hsd), if_pos rfl]
      | false =>
        rw [if_pos (z2.mpr hsd), if_neg (by simp)]
        funext j
        unfold ub32 ub
        split <;> rfl
    rw [e2, e3] at hd
    exact hd
  · refine s_putCo (σ := (w1, σ.2)) hA (fun i _ _ => hB i) kn1 kA t.1 hps d2.1 d3.1 (fun q => ?_) kd1 ci1 k4 fun w' hd hf => ?_
    · obtain ⟨o, o4, ho⟩ := (t.2.2.1 q).2.2.2.2.1
      exact ⟨o, o4, by unfold it_ord; rw [if_pos q]; exact ho⟩
    · simp only [eX7_takeStep_0, eX7_takeStep_1, eX7_takeStep_4, eX7_takeStep_5, eX7_takeStep_8, eX7_takeStep_9, eX7_takeStep_10, eX7_takeStep_13, eX7_takeStep_14, eX7_takeStep_17, eX7_takeStep_19, eX7_takeStep_22, eX7_takeStep_23, eX7_takeStep_24, eX7_takeStep_25, eX7_takeStep_28, eX7_takeStep_31, eX7_takeStep_34, eX7_takeStep_35, eX7_takeStep_38, eX7_takeStep_41, eX7_takeStep_44, eX7_takeStep_45, eX7_takeStep_48, eX7_takeStep_49, eX7_takeStep_50, eX7_takeStep_51, eX7_takeStep_54, eX7_takeStep_55, eX7_takeStep_58, eX7_takeStep_59, eX7_takeStep_60, eX7_takeStep_63, eX7_takeStep_66, eX7_takeStep_69, eX7_takeStep_70, eX7_takeStep_73, eX7_takeStep_74, eX7_takeStep_75, eX7_takeStep_76, eX7_takeStep_79, eX7_takeStep_80, eX7_takeStep_81, eX7_takeStep_84, eX7_takeStep_87, eX7_takeStep_88, eX7_takeStep_91, eX7_takeStep_92, eX7_takeStep_95, eX7_takeStep_98, eX7_takeStep_101, eX7_takeStep_102, eX7_takeStep_105, eX7_takeStep_106, eX7_takeStep_107, eX7_takeStep_108, eX7_takeStep_111, eX7_takeStep_114, eX7_takeStep_115, eX7_takeStep_116, eX7_takeStep_119, eX7_takeStep_120, eX7_takeStep_123, eX7_takeStep_124, List.getElem?_cons_zero, List.getElem?_cons_succ, Option.some.injEq, Value.int.injEq, Value.long.injEq, Value.ref.injEq, reduceCtorEq, exists_eq_left', exists_eq_left, exists_and_left, exists_and_right, and_assoc, and_true, true_and, true_or, or_true, x_rfv_ref, x_rfv_null, Prod.mk.injEq, List.set_cons_zero, List.set_cons_succ, List.length_cons, List.length_nil, Value.category, x_nl0, x_nl1, x_nl2, x_nl3, x_nl4, x_nl5, x_nl6, x_nl7, x_nl8, x_nl9, x_nl10, x_nl11, x_nl12, List.map_nil, List.map_cons, List.sum_nil, List.sum_cons, Option.toList_some, Option.toList_none, List.nil_append, List.cons_append, xl_lt, xl_gt, xl_eq, ↓reduceIte, Nat.reduceLT, Nat.reduceAdd, Nat.reduceLeDiff, x_up_self, x_uu, lt0, ln0, lx0, lt1, ln1, lx1, lt2, ln2, lx2, lt3, ln3, lx3, lt4, ln4, lx4, lt5, ln5, lx5, lt6, ln6, lx6, lt7, ln7, lx7, lt8, ln8, lx8, lt9, ln9, lx9, lt10, ln10, lx10, lt11, ln11, lx11, lt12, ln12, lx12, lt13, ln13, lx13, lt14, ln14, lx14, lt15, ln15, lx15, lt16, ln16, lx16, lt17, ln17, lx17, lt18, ln18, lx18, lt19, ln19, lx19, lt20, ln20, lx20, lt21, ln21, lx21, lt22, ln22, lx22, lt23, ln23, lx23, lt24, ln24, lx24, la0, la1, la2, la3, la4, la5, la6, la7, la8, la9, la10, la11, la12, lb0, lb1, lb2, lb3, lb4, lb5, lb6, lb7, lb8, lb9, lb10, lb11, lb12, lt60, lt400, lt900, ltm1, ltm2, ltm4, ltm10000, lt10000, lt1000000, ltm1000000, lt10000000, lt2000, lt100000, Int.toNat_natCast, i1ne0, i0eq0, Int.reduceLT, Int.reduceLE, Int.reduceToNat, Int.reduceNeg, not_true, not_false_iff, false_imp_iff, true_imp_iff, imp_self, implies_true, Option.isSome_some, Bool.false_eq_true]
      refine fin w' hf ?_
      rw [put_o hi k4]
      refine ⟨_, _, co, bs, bp, bst, ?_, pI _ rfl, pP _, d4, d5⟩
      have e1 : (S.2.2.2.2.1.1 ++ [(m_hd S, (0 : Int32), false)]).length = S.2.2.2.2.1.1.length + 1 := by rw [List.length_append]; rfl
      rw [e1]
      exact hd
