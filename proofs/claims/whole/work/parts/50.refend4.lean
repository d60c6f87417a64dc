/-! THE REFERENCE: end, loop one -/
def m_mk1 (kd : Nat → Nat) (vl : Nat → Int32) (i : Nat) (s : Int32 × Int32 × Bool) : Int32 × Int32 × Bool := if kd i = 5 then (if s.2.2 then s.1 else vl i, vl i, true) else s
def m_mkf (kd : Nat → Nat) (vl : Nat → Int32) : List (Nat × Int32 × Bool) → Int32 × Int32 × Bool → Int32 × Int32 × Bool
  | [], s => s
  | q :: r, s => m_mkf kd vl r (m_mk1 kd vl q.1 s)
def m_held (lf : Nat → Int32) (l : List (Nat × Int32 × Bool)) : List (Nat × Int32) := (l.filter fun q => q.2.2).map fun q => (q.1, lf q.1 - q.2.1)
/-- the marks of the page that ends: the rows before stay, then top and first -/
def mks (w : xM) (M : Nat → Nat) (p : Nat) (g : Nat → Value) (tp f : Int32) : Prop := aw w M 41 100 180 (3 * p + 2) (fun j => if j < 3 * p then g j else if j = 3 * p then .int tp else .int f)
set_option maxRecDepth 20000 in
set_option maxHeartbeats 1000000 in
theorem en1 {B : Nat} {ad M : Nat → Nat} {K : xK} {F : Int32 → List Value} {Q : List (Nat × Int32 × Bool)} {lf vl : Nat → Int32} {kd : Nat → Nat} {n p fr : Nat} {gI gP gM : Nat → Value} {tp : Int32} (hM : ainj M) (hB : ∀ c, B ≤ M c) (hp : p < 60) (hfr : fr + Q.length ≤ 25000)
    (f2 : ∀ b, (F b)[2]? = some (.ref (M 2))) (f3 : ∀ b, (F b)[3]? = some (.ref (M 3))) (f19 : ∀ b, (F b)[19]? = some (.ref (M 19))) (f20 : ∀ b, (F b)[20]? = some (.ref (M 20))) (f21 : ∀ b, (F b)[21]? = some (.ref (M 21))) (f22 : ∀ b, (F b)[22]? = some (.ref (M 22))) (f31 : ∀ b, (F b)[31]? = some (.int (nI Q.length))) (f34 : ∀ b, (F b)[34]? = some (.int (nI p))) (f36 : ∀ b, (F b)[36]? = some (.ref (M 36))) (f37 : ∀ b, (F b)[37]? = some (.ref (M 37))) (f41 : ∀ b, (F b)[41]? = some (.ref (M 41))) (f42 : ∀ b, (F b)[42]? = some (.int b)) (f43 : ∀ b, (F b)[43]? = some (.ref (M 43))) (f44 : ∀ b, (F b)[44]? = some (.ref (M 44))) (fl : ∀ b, 42 < (F b).length) (fse : ∀ b x, (F b).set 42 (.int x) = F x)
    (hi : ∀ q, q ∈ Q → q.1 < n) (hk : ∀ i, kd i < 6) (hgI : ∀ j, j < Q.length → gI (fr + j) = .int (nI (on_i Q j))) (hgP : ∀ j, j < Q.length → gP (fr + j) = .int (on_p Q j)) (hQ : Q.length ≤ 900) : ∀ d k, d + k = Q.length → ∀ (σ : xW) (A : List (Nat × Int32)) (f b : Int32) (m : Bool), σ.1 (M 0) = some (8, F b) → aw σ.1 M 2 100 400 n (fun i => .int (nI (kd i))) → aw σ.1 M 3 100 400 n (fun i => .int (vl i)) → aw σ.1 M 19 100 900 Q.length (fun j => .int (nI (on_i Q j))) → aw σ.1 M 20 100 900 Q.length (fun j => .int (lf (on_i Q j))) → aw σ.1 M 21 100 900 Q.length (fun j => .int (on_p Q j)) → aw σ.1 M 22 102 900 Q.length (fun j => .int (bz (on_o Q j))) → agn σ.1 M A → A.length + d ≤ 900 → aw σ.1 M 36 100 25000 (fr + k) gI → aw σ.1 M 37 100 25000 (fr + k) gP → mks σ.1 M p gM tp f →
    (∀ (w' : xM) (s : Int32 × Int32 × Bool) (A' : List (Nat × Int32)), s = m_mkf kd vl (Q.drop k) (f, b, m) → A' = A ++ m_held lf (Q.drop k) → w' (M 0) = some (8, F s.2.1) → agn w' M A' → aw w' M 36 100 25000 (fr + Q.length) gI → aw w' M 37 100 25000 (fr + Q.length) gP → mks w' M p gM tp s.1 → frc M [0, 36, 37, 41, 43, 44] σ.1 w' → wX8_end B ad K 214 [.ref (M 0), .int (nI fr), .int (nI A'.length), .int (bz s.2.2), .int (nI Q.length), .retAddr 0] [] (w', σ.2)) → wX8_end B ad K 49 [.ref (M 0), .int (nI fr), .int (nI A.length), .int (bz m), .int (nI k), .retAddr 0] [] σ := by
  intro d
  induction d with
  | zero =>
    intro k hk' σ A f b m h0 g2 g3 g19 g20 g21 g22 ha hA g36 g37 gm h
    have : k = Q.length := by omega
    subst this
    rw [eX8_end_49]
    simp only [eX8_end_51, eX8_end_52, eX8_end_55, eX8_end_58, eX8_end_59, eX8_end_62, eX8_end_63, eX8_end_65, eX8_end_66, eX8_end_67, eX8_end_70, eX8_end_72, eX8_end_73, eX8_end_74, eX8_end_75, eX8_end_78, eX8_end_79, eX8_end_81, eX8_end_82, eX8_end_83, eX8_end_86, eX8_end_88, eX8_end_89, eX8_end_90, eX8_end_91, eX8_end_94, eX8_end_96, eX8_end_97, eX8_end_100, eX8_end_101, eX8_end_104, eX8_end_105, eX8_end_106, eX8_end_109, eX8_end_111, eX8_end_112, eX8_end_113, eX8_end_114, eX8_end_117, eX8_end_118, eX8_end_119, eX8_end_122, eX8_end_124, eX8_end_125, eX8_end_126, eX8_end_129, eX8_end_131, eX8_end_132, eX8_end_133, eX8_end_134, eX8_end_137, eX8_end_138, eX8_end_141, eX8_end_142, eX8_end_145, eX8_end_147, eX8_end_148, eX8_end_149, eX8_end_150, eX8_end_153, eX8_end_154, eX8_end_155, eX8_end_158, eX8_end_159, eX8_end_162, eX8_end_164, eX8_end_165, eX8_end_166, eX8_end_169, eX8_end_170, eX8_end_173, eX8_end_174, eX8_end_175, eX8_end_178, eX8_end_179, eX8_end_180, eX8_end_181, eX8_end_182, eX8_end_185, eX8_end_186, eX8_end_189, eX8_end_190, eX8_end_191, eX8_end_194, eX8_end_195, eX8_end_196, eX8_end_197, eX8_end_198, eX8_end_201, eX8_end_202, eX8_end_205, eX8_end_206, eX8_end_207, eX8_end_208, eX8_end_211, List.getElem?_cons_zero, List.getElem?_cons_succ, Option.some.injEq, Value.int.injEq, Value.long.injEq, Value.ref.injEq, reduceCtorEq, exists_eq_left', exists_eq_left, exists_and_left, exists_and_right, and_assoc, and_true, true_and, true_or, or_true, x_rfv_ref, x_rfv_null, Prod.mk.injEq, List.set_cons_zero, List.set_cons_succ, List.length_cons, List.length_nil, Value.category, x_nl0, x_nl1, x_nl2, x_nl3, x_nl4, x_nl5, x_nl6, x_nl7, x_nl8, x_nl9, x_nl10, x_nl11, x_nl12, List.map_nil, List.map_cons, List.sum_nil, List.sum_cons, Option.toList_some, Option.toList_none, List.nil_append, List.cons_append, xl_lt, xl_gt, xl_eq, ↓reduceIte, Nat.reduceLT, Nat.reduceAdd, Nat.reduceLeDiff, x_up_self, x_uu, lt0, ln0, lx0, lt1, ln1, lx1, lt2, ln2, lx2, lt3, ln3, lx3, lt4, ln4, lx4, lt5, ln5, lx5, lt6, ln6, lx6, lt7, ln7, lx7, lt8, ln8, lx8, lt9, ln9, lx9, lt10, ln10, lx10, lt11, ln11, lx11, lt12, ln12, lx12, lt13, ln13, lx13, lt14, ln14, lx14, lt15, ln15, lx15, lt16, ln16, lx16, lt17, ln17, lx17, lt18, ln18, lx18, lt19, ln19, lx19, lt20, ln20, lx20, lt21, ln21, lx21, lt22, ln22, lx22, lt23, ln23, lx23, lt24, ln24, lx24, la0, la1, la2, la3, la4, la5, la6, la7, la8, la9, la10, la11, la12, lb0, lb1, lb2, lb3, lb4, lb5, lb6, lb7, lb8, lb9, lb10, lb11, lb12, lt60, lt400, lt900, ltm1, ltm2, ltm4, ltm10000, lt10000, lt1000000, ltm1000000, lt10000000, lt2000, lt100000, Int.toNat_natCast, i1ne0, i0eq0, Int.reduceLT, Int.reduceLE, Int.reduceToNat, Int.reduceNeg, not_true, not_false_iff, false_imp_iff, true_imp_iff, imp_self, implies_true, Option.isSome_some, Bool.false_eq_true, h0, f31, nI_k (show Q.length < 2147483648 by omega)]
    rw [if_neg (by omega)]
    exact h σ.1 (f, b, m) A (by rw [List.drop_length]; rfl) (by rw [List.drop_length]; simp [m_held]) h0 ha g36 g37 gm frc_rf
  | succ d ih =>
    intro k hk' σ A f b m h0 g2 g3 g19 g20 g21 g22 ha hA g36 g37 gm h
    have hkQ : k < Q.length := by omega
    have hi1 : on_i Q k < n := hi _ (x_gmo hkQ)
    obtain ⟨A3, hA3⟩ : ∃ A3, A3 = if on_o Q k then A ++ [(on_i Q k, lf (on_i Q k) - on_p Q k)] else A := ⟨_, rfl⟩
    have hA3l : A3.length ≤ A.length + 1 := by rw [hA3]; split <;> simp
    have eQ : Q.drop k = Q.getD k (0, 0, false) :: Q.drop (k + 1) := by
      rw [List.drop_eq_getElem_cons hkQ]; simp [List.getD, List.getElem?_eq_getElem hkQ]
    have eA : A3 ++ m_held lf (Q.drop (k + 1)) = A ++ m_held lf (Q.drop k) := by
      rw [eQ, hA3]
      unfold m_held
      by_cases ho : on_o Q k = true
      · rw [if_pos ho, List.filter_cons, if_pos (show (Q.getD k (0, 0, false)).2.2 = true from ho)]
        simp [on_i, on_p]
      · rw [if_neg ho, List.filter_cons, if_neg (show ¬ (Q.getD k (0, 0, false)).2.2 = true from ho)]
    have C3 : ∀ (w3 : xM) (s3 : Int32 × Int32 × Bool), frc M [0, 36, 37, 41, 43, 44] σ.1 w3 → w3 (M 0) = some (8, F s3.2.1) → agn w3 M A3 → aw w3 M 36 100 25000 (fr + (k + 1)) gI → aw w3 M 37 100 25000 (fr + (k + 1)) gP → mks w3 M p gM tp s3.1 → s3 = m_mk1 kd vl (on_i Q k) (f, b, m) → wX8_end B ad K 208 [.ref (M 0), .int (nI fr), .int (nI A3.length), .int (bz s3.2.2), .int (nI k), .retAddr 0] [] (w3, σ.2) := by
      intro w3 s3 F3 m0 ma m36 m37 mm hs3
      simp only [eX8_end_208, eX8_end_211, List.getElem?_cons_zero, List.getElem?_cons_succ, Option.some.injEq, Value.int.injEq, Value.long.injEq, Value.ref.injEq, reduceCtorEq, exists_eq_left', exists_eq_left, exists_and_left, exists_and_right, and_assoc, and_true, true_and, true_or, or_true, x_rfv_ref, x_rfv_null, Prod.mk.injEq, List.set_cons_zero, List.set_cons_succ, List.length_cons, List.length_nil, Value.category, x_nl0, x_nl1, x_nl2, x_nl3, x_nl4, x_nl5, x_nl6, x_nl7, x_nl8, x_nl9, x_nl10, x_nl11, x_nl12, List.map_nil, List.map_cons, List.sum_nil, List.sum_cons, Option.toList_some, Option.toList_none, List.nil_append, List.cons_append, xl_lt, xl_gt, xl_eq, ↓reduceIte, Nat.reduceLT, Nat.reduceAdd, Nat.reduceLeDiff, x_up_self, x_uu, lt0, ln0, lx0, lt1, ln1, lx1, lt2, ln2, lx2, lt3, ln3, lx3, lt4, ln4, lx4, lt5, ln5, lx5, lt6, ln6, lx6, lt7, ln7, lx7, lt8, ln8, lx8, lt9, ln9, lx9, lt10, ln10, lx10, lt11, ln11, lx11, lt12, ln12, lx12, lt13, ln13, lx13, lt14, ln14, lx14, lt15, ln15, lx15, lt16, ln16, lx16, lt17, ln17, lx17, lt18, ln18, lx18, lt19, ln19, lx19, lt20, ln20, lx20, lt21, ln21, lx21, lt22, ln22, lx22, lt23, ln23, lx23, lt24, ln24, lx24, la0, la1, la2, la3, la4, la5, la6, la7, la8, la9, la10, la11, la12, lb0, lb1, lb2, lb3, lb4, lb5, lb6, lb7, lb8, lb9, lb10, lb11, lb12, lt60, lt400, lt900, ltm1, ltm2, ltm4, ltm10000, lt10000, lt1000000, ltm1000000, lt10000000, lt2000, lt100000, Int.toNat_natCast, i1ne0, i0eq0, Int.reduceLT, Int.reduceLE, Int.reduceToNat, Int.reduceNeg, not_true, not_false_iff, false_imp_iff, true_imp_iff, imp_self, implies_true, Option.isSome_some, Bool.false_eq_true, nI_1]
      refine ih (k + 1) (by omega) (w3, σ.2) A3 s3.1 s3.2.1 s3.2.2 m0 (aw_frc hM F3 (by decide) g2) (aw_frc hM F3 (by decide) g3) (aw_frc hM F3 (by decide) g19) (aw_frc hM F3 (by decide) g20) (aw_frc hM F3 (by decide) g21) (aw_frc hM F3 (by decide) g22) ma (by omega) m36 m37 mm fun w' s A' hs hA' q1 q2 q3 q4 q5 q6 => ?_
      refine h w' s A' ?_ (hA'.trans eA) q1 q2 q3 q4 q5 (frc_tr F3 q6 (fun c hc => hc))
      rw [hs, eQ, hs3]; rfl
    have C2 : ∀ w2 : xM, frc M [0, 36, 37, 41, 43, 44] σ.1 w2 → w2 (M 0) = some (8, F b) → agn w2 M A3 → aw w2 M 36 100 25000 (fr + (k + 1)) gI → aw w2 M 37 100 25000 (fr + (k + 1)) gP → mks w2 M p gM tp f → wX8_end B ad K 137 [.ref (M 0), .int (nI fr), .int (nI A3.length), .int (bz m), .int (nI k), .retAddr 0] [] (w2, σ.2) := by
      intro w2 F2 m0 ma m36 m37 mm
      obtain ⟨V2, a1, a2⟩ := aw_frc hM F2 (by decide) g2
      obtain ⟨V3, a3, a4⟩ := aw_frc hM F2 (by decide) g3
      obtain ⟨V19, a5, a6⟩ := aw_frc hM F2 (by decide) g19
      obtain ⟨V41, a7, a8⟩ := id mm
      have hn : n ≤ 400 := apre_n a2
      have e2 : x_ix (nI (on_i Q k)) V2 = some (.int (nI (kd (on_i Q k)))) := apre_ix a2 hi1 (by omega)
      have e3 : x_ix (nI (on_i Q k)) V3 = some (.int (vl (on_i Q k))) := apre_ix a4 hi1 (by omega)
      have e19 : x_ix (nI k) V19 = some (.int (nI (on_i Q k))) := apre_ix a6 hkQ (by omega)
      have e41 : (3 : Int32) * nI p + 1 = nI (3 * p + 1) := by rw [show (3 : Int32) = nI 3 from rfl, pk_mul, nI_1]
      have v41 : x_ix (nI (3 * p + 1)) V41 = some (.int f) := by
        refine (apre_ix a8 (show 3 * p + 1 < 3 * p + 2 by omega) (by omega)).trans ?_
        show some (if 3 * p + 1 < 3 * p then gM (3 * p + 1) else if 3 * p + 1 = 3 * p then .int tp else .int f) = _
        rw [if_neg (by omega), if_neg (by omega)]
      have q5 : (nI (kd (on_i Q k)) = 5) = (kd (on_i Q k) = 5) := propext (nI_eq (b := 5) (by have := hk (on_i Q k); omega) (by decide))
      simp only [eX8_end_137, eX8_end_138, eX8_end_141, eX8_end_142, eX8_end_145, eX8_end_147, eX8_end_148, eX8_end_149, List.getElem?_cons_zero, List.getElem?_cons_succ, Option.some.injEq, Value.int.injEq, Value.long.injEq, Value.ref.injEq, reduceCtorEq, exists_eq_left', exists_eq_left, exists_and_left, exists_and_right, and_assoc, and_true, true_and, true_or, or_true, x_rfv_ref, x_rfv_null, Prod.mk.injEq, List.set_cons_zero, List.set_cons_succ, List.length_cons, List.length_nil, Value.category, x_nl0, x_nl1, x_nl2, x_nl3, x_nl4, x_nl5, x_nl6, x_nl7, x_nl8, x_nl9, x_nl10, x_nl11, x_nl12, List.map_nil, List.map_cons, List.sum_nil, List.sum_cons, Option.toList_some, Option.toList_none, List.nil_append, List.cons_append, xl_lt, xl_gt, xl_eq, ↓reduceIte, Nat.reduceLT, Nat.reduceAdd, Nat.reduceLeDiff, x_up_self, x_uu, lt0, ln0, lx0, lt1, ln1, lx1, lt2, ln2, lx2, lt3, ln3, lx3, lt4, ln4, lx4, lt5, ln5, lx5, lt6, ln6, lx6, lt7, ln7, lx7, lt8, ln8, lx8, lt9, ln9, lx9, lt10, ln10, lx10, lt11, ln11, lx11, lt12, ln12, lx12, lt13, ln13, lx13, lt14, ln14, lx14, lt15, ln15, lx15, lt16, ln16, lx16, lt17, ln17, lx17, lt18, ln18, lx18, lt19, ln19, lx19, lt20, ln20, lx20, lt21, ln21, lx21, lt22, ln22, lx22, lt23, ln23, lx23, lt24, ln24, lx24, la0, la1, la2, la3, la4, la5, la6, la7, la8, la9, la10, la11, la12, lb0, lb1, lb2, lb3, lb4, lb5, lb6, lb7, lb8, lb9, lb10, lb11, lb12, lt60, lt400, lt900, ltm1, ltm2, ltm4, ltm10000, lt10000, lt1000000, ltm1000000, lt10000000, lt2000, lt100000, Int.toNat_natCast, i1ne0, i0eq0, Int.reduceLT, Int.reduceLE, Int.reduceToNat, Int.reduceNeg, not_true, not_false_iff, false_imp_iff, true_imp_iff, imp_self, implies_true, Option.isSome_some, Bool.false_eq_true, m0, f2, f19, a1, a5, e2, e19]
      rw [eX8_end_150]
      by_cases k5 : kd (on_i Q k) = 5
      · rw [if_pos (q5.mpr k5)]
        have fin : ∀ (w3 : xM) (f' : Int32), f' = (if m then f else vl (on_i Q k)) → frc M [0, 41] w2 w3 → w3 (M 0) = some (8, F (vl (on_i Q k))) → w3 (M 41) = some (100, V41.set (3 * p + 1) (.int f')) → wX8_end B ad K 208 [.ref (M 0), .int (nI fr), .int (nI A3.length), .int (bz true), .int (nI k), .retAddr 0] [] (w3, σ.2) := by
          intro w3 f' hf' F3 n0 n41
          refine C3 w3 (f', vl (on_i Q k), true) (frc_tr F2 F3 (by decide)) n0 (agn_frc hM F3 (by decide) ma) (aw_frc hM F3 (by decide) m36) (aw_frc hM F3 (by decide) m37) ?_ ?_
          · refine ⟨_, n41, apre_congr (apre_set a8 (by omega)) fun j hj => ?_⟩
            by_cases ej : j = 3 * p + 1
            · rw [if_pos ej, if_neg (by omega), if_neg (by omega)]
            · rw [if_neg ej]
              by_cases e1 : j < 3 * p
              · rw [if_pos e1, if_pos e1]
              · rw [if_neg e1, if_neg e1, if_pos (by omega), if_pos (by omega)]
          · unfold m_mk1; rw [if_pos k5, hf']
        cases m with
        | false =>
          simp only [eX8_end_153, eX8_end_154, eX8_end_155, eX8_end_158, eX8_end_159, eX8_end_162, eX8_end_164, eX8_end_165, eX8_end_166, eX8_end_169, eX8_end_170, eX8_end_173, eX8_end_174, eX8_end_175, eX8_end_178, eX8_end_179, eX8_end_180, eX8_end_181, eX8_end_182, eX8_end_185, eX8_end_186, eX8_end_189, eX8_end_190, eX8_end_191, eX8_end_194, eX8_end_195, eX8_end_196, eX8_end_197, eX8_end_198, eX8_end_201, eX8_end_202, eX8_end_205, eX8_end_206, eX8_end_207, List.getElem?_cons_zero, List.getElem?_cons_succ, Option.some.injEq, Value.int.injEq, Value.long.injEq, Value.ref.injEq, reduceCtorEq, exists_eq_left', exists_eq_left, exists_and_left, exists_and_right, and_assoc, and_true, true_and, true_or, or_true, x_rfv_ref, x_rfv_null, Prod.mk.injEq, List.set_cons_zero, List.set_cons_succ, List.length_cons, List.length_nil, Value.category, x_nl0, x_nl1, x_nl2, x_nl3, x_nl4, x_nl5, x_nl6, x_nl7, x_nl8, x_nl9, x_nl10, x_nl11, x_nl12, List.map_nil, List.map_cons, List.sum_nil, List.sum_cons, Option.toList_some, Option.toList_none, List.nil_append, List.cons_append, xl_lt, xl_gt, xl_eq, ↓reduceIte, Nat.reduceLT, Nat.reduceAdd, Nat.reduceLeDiff, x_up_self, x_uu, lt0, ln0, lx0, lt1, ln1, lx1, lt2, ln2, lx2, lt3, ln3, lx3, lt4, ln4, lx4, lt5, ln5, lx5, lt6, ln6, lx6, lt7, ln7, lx7, lt8, ln8, lx8, lt9, ln9, lx9, lt10, ln10, lx10, lt11, ln11, lx11, lt12, ln12, lx12, lt13, ln13, lx13, lt14, ln14, lx14, lt15, ln15, lx15, lt16, ln16, lx16, lt17, ln17, lx17, lt18, ln18, lx18, lt19, ln19, lx19, lt20, ln20, lx20, lt21, ln21, lx21, lt22, ln22, lx22, lt23, ln23, lx23, lt24, ln24, lx24, la0, la1, la2, la3, la4, la5, la6, la7, la8, la9, la10, la11, la12, lb0, lb1, lb2, lb3, lb4, lb5, lb6, lb7, lb8, lb9, lb10, lb11, lb12, lt60, lt400, lt900, ltm1, ltm2, ltm4, ltm10000, lt10000, lt1000000, ltm1000000, lt10000000, lt2000, lt100000, Int.toNat_natCast, i1ne0, i0eq0, Int.reduceLT, Int.reduceLE, Int.reduceToNat, Int.reduceNeg, not_true, not_false_iff, false_imp_iff, true_imp_iff, imp_self, implies_true, Option.isSome_some, Bool.false_eq_true, bzf, m0, f3, f19, f34, f41, f42, fl, fse, a3, a5, a7, e3, e19, e41, hB, x_upA hM, Nat.reduceEqDiff, nI_nat (show 3 * p + 1 < 2 ^ 31 by omega), apre_some a8 (show 3 * p + 1 < 180 by omega) (by decide)]
          refine fin _ (vl (on_i Q k)) rfl (frc_up (frc_up frc_rf (by simp)) (by simp)) ?_ ?_
          · simp [x_upA hM]
          · simp [x_upA hM]
        | true =>
          simp only [eX8_end_153, eX8_end_154, eX8_end_155, eX8_end_158, eX8_end_159, eX8_end_162, eX8_end_164, eX8_end_165, eX8_end_166, eX8_end_169, eX8_end_170, eX8_end_173, eX8_end_174, eX8_end_175, eX8_end_178, eX8_end_179, eX8_end_180, eX8_end_181, eX8_end_182, eX8_end_185, eX8_end_186, eX8_end_189, eX8_end_190, eX8_end_191, eX8_end_194, eX8_end_195, eX8_end_196, eX8_end_197, eX8_end_198, eX8_end_201, eX8_end_202, eX8_end_205, eX8_end_206, eX8_end_207, List.getElem?_cons_zero, List.getElem?_cons_succ, Option.some.injEq, Value.int.injEq, Value.long.injEq, Value.ref.injEq, reduceCtorEq, exists_eq_left', exists_eq_left, exists_and_left, exists_and_right, and_assoc, and_true, true_and, true_or, or_true, x_rfv_ref, x_rfv_null, Prod.mk.injEq, List.set_cons_zero, List.set_cons_succ, List.length_cons, List.length_nil, Value.category, x_nl0, x_nl1, x_nl2, x_nl3, x_nl4, x_nl5, x_nl6, x_nl7, x_nl8, x_nl9, x_nl10, x_nl11, x_nl12, List.map_nil, List.map_cons, List.sum_nil, List.sum_cons, Option.toList_some, Option.toList_none, List.nil_append, List.cons_append, xl_lt, xl_gt, xl_eq, ↓reduceIte, Nat.reduceLT, Nat.reduceAdd, Nat.reduceLeDiff, x_up_self, x_uu, lt0, ln0, lx0, lt1, ln1, lx1, lt2, ln2, lx2, lt3, ln3, lx3, lt4, ln4, lx4, lt5, ln5, lx5, lt6, ln6, lx6, lt7, ln7, lx7, lt8, ln8, lx8, lt9, ln9, lx9, lt10, ln10, lx10, lt11, ln11, lx11, lt12, ln12, lx12, lt13, ln13, lx13, lt14, ln14, lx14, lt15, ln15, lx15, lt16, ln16, lx16, lt17, ln17, lx17, lt18, ln18, lx18, lt19, ln19, lx19, lt20, ln20, lx20, lt21, ln21, lx21, lt22, ln22, lx22, lt23, ln23, lx23, lt24, ln24, lx24, la0, la1, la2, la3, la4, la5, la6, la7, la8, la9, la10, la11, la12, lb0, lb1, lb2, lb3, lb4, lb5, lb6, lb7, lb8, lb9, lb10, lb11, lb12, lt60, lt400, lt900, ltm1, ltm2, ltm4, ltm10000, lt10000, lt1000000, ltm1000000, lt10000000, lt2000, lt100000, Int.toNat_natCast, i1ne0, i0eq0, Int.reduceLT, Int.reduceLE, Int.reduceToNat, Int.reduceNeg, not_true, not_false_iff, false_imp_iff, true_imp_iff, imp_self, implies_true, Option.isSome_some, Bool.false_eq_true, bzt, m0, f3, f19, f34, f41, f42, fl, fse, a3, a5, a7, e3, e19, e41, v41, hB, x_upA hM, Nat.reduceEqDiff, nI_nat (show 3 * p + 1 < 2 ^ 31 by omega)]
          refine fin _ f rfl (frc_up (frc_up frc_rf (by simp)) (by simp)) ?_ ?_
          · simp [x_upA hM]
          · simp [x_upA hM]
      · rw [if_neg (fun e => k5 (q5.mp e))]
        exact C3 w2 (f, b, m) F2 m0 ma m36 m37 mm (by unfold m_mk1; rw [if_neg k5])
    obtain ⟨V19, a5, a6⟩ := id g19
    obtain ⟨V20, b1, b2⟩ := id g20
    obtain ⟨V21, b3, b4'⟩ := id g21
    obtain ⟨V22, b5, b6⟩ := id g22
    obtain ⟨V36, c1, c2⟩ := id g36
    obtain ⟨V37, c3, c4⟩ := id g37
    obtain ⟨⟨V, v1, v2⟩, ⟨W, w1, w2⟩⟩ := id ha
    have e19 : x_ix (nI k) V19 = some (.int (nI (on_i Q k))) := apre_ix a6 hkQ (by omega)
    have e20 : x_ix (nI k) V20 = some (.int (lf (on_i Q k))) := apre_ix b2 hkQ (by omega)
    have e21 : x_ix (nI k) V21 = some (.int (on_p Q k)) := apre_ix b4' hkQ (by omega)
    have e22 : x_ix (nI k) V22 = some (.int (bz (on_o Q k))) := apre_ix b6 hkQ (by omega)
    have ef : nI fr + nI k = nI (fr + k) := nI_add _ _
    rw [eX8_end_49]
    simp only [eX8_end_51, eX8_end_52, eX8_end_55, eX8_end_58, eX8_end_59, eX8_end_62, eX8_end_63, eX8_end_65, eX8_end_66, eX8_end_67, eX8_end_70, eX8_end_72, eX8_end_73, eX8_end_74, eX8_end_75, eX8_end_78, eX8_end_79, eX8_end_81, eX8_end_82, eX8_end_83, eX8_end_86, eX8_end_88, eX8_end_89, eX8_end_90, eX8_end_91, eX8_end_94, eX8_end_96, List.getElem?_cons_zero, List.getElem?_cons_succ, Option.some.injEq, Value.int.injEq, Value.long.injEq, Value.ref.injEq, reduceCtorEq, exists_eq_left', exists_eq_left, exists_and_left, exists_and_right, and_assoc, and_true, true_and, true_or, or_true, x_rfv_ref, x_rfv_null, Prod.mk.injEq, List.set_cons_zero, List.set_cons_succ, List.length_cons, List.length_nil, Value.category, x_nl0, x_nl1, x_nl2, x_nl3, x_nl4, x_nl5, x_nl6, x_nl7, x_nl8, x_nl9, x_nl10, x_nl11, x_nl12, List.map_nil, List.map_cons, List.sum_nil, List.sum_cons, Option.toList_some, Option.toList_none, List.nil_append, List.cons_append, xl_lt, xl_gt, xl_eq, ↓reduceIte, Nat.reduceLT, Nat.reduceAdd, Nat.reduceLeDiff, x_up_self, x_uu, lt0, ln0, lx0, lt1, ln1, lx1, lt2, ln2, lx2, lt3, ln3, lx3, lt4, ln4, lx4, lt5, ln5, lx5, lt6, ln6, lx6, lt7, ln7, lx7, lt8, ln8, lx8, lt9, ln9, lx9, lt10, ln10, lx10, lt11, ln11, lx11, lt12, ln12, lx12, lt13, ln13, lx13, lt14, ln14, lx14, lt15, ln15, lx15, lt16, ln16, lx16, lt17, ln17, lx17, lt18, ln18, lx18, lt19, ln19, lx19, lt20, ln20, lx20, lt21, ln21, lx21, lt22, ln22, lx22, lt23, ln23, lx23, lt24, ln24, lx24, la0, la1, la2, la3, la4, la5, la6, la7, la8, la9, la10, la11, la12, lb0, lb1, lb2, lb3, lb4, lb5, lb6, lb7, lb8, lb9, lb10, lb11, lb12, lt60, lt400, lt900, ltm1, ltm2, ltm4, ltm10000, lt10000, lt1000000, ltm1000000, lt10000000, lt2000, lt100000, Int.toNat_natCast, i1ne0, i0eq0, Int.reduceLT, Int.reduceLE, Int.reduceToNat, Int.reduceNeg, not_true, not_false_iff, false_imp_iff, true_imp_iff, imp_self, implies_true, Option.isSome_some, Bool.false_eq_true, h0, f31, f36, f37, f19, f21, f22, a5, b3, b5, c1, c3, e19, e21, e22, ef, hB, x_upA hM, Nat.reduceEqDiff, nI_k (show Q.length < 2147483648 by omega), nI_k (show k < 2147483648 by omega), nI_nat (show fr + k < 2 ^ 31 by omega), apre_some c2 (show fr + k < 25000 by omega) (by decide), apre_some c4 (show fr + k < 25000 by omega) (by decide)]
    rw [if_pos (by omega), eX8_end_97]
    have P36 : ∀ w2 : xM, w2 (M 36) = some (100, V36.set (fr + k) (.int (nI (on_i Q k)))) → aw w2 M 36 100 25000 (fr + (k + 1)) gI := fun w2 hw => aw_push c2 (show fr + k < 25000 by omega) hw (fun j _ => rfl) (hgI k hkQ).symm
    have P37 : ∀ w2 : xM, w2 (M 37) = some (100, V37.set (fr + k) (.int (on_p Q k))) → aw w2 M 37 100 25000 (fr + (k + 1)) gP := fun w2 hw => aw_push c4 (show fr + k < 25000 by omega) hw (fun j _ => rfl) (hgP k hkQ).symm
    by_cases ho : on_o Q k = true
    · rw [if_neg (by rw [ho]; decide)]
      rw [if_pos ho] at hA3
      simp only [eX8_end_100, eX8_end_101, eX8_end_104, eX8_end_105, eX8_end_106, eX8_end_109, eX8_end_111, eX8_end_112, eX8_end_113, eX8_end_114, eX8_end_117, eX8_end_118, eX8_end_119, eX8_end_122, eX8_end_124, eX8_end_125, eX8_end_126, eX8_end_129, eX8_end_131, eX8_end_132, eX8_end_133, eX8_end_134, List.getElem?_cons_zero, List.getElem?_cons_succ, Option.some.injEq, Value.int.injEq, Value.long.injEq, Value.ref.injEq, reduceCtorEq, exists_eq_left', exists_eq_left, exists_and_left, exists_and_right, and_assoc, and_true, true_and, true_or, or_true, x_rfv_ref, x_rfv_null, Prod.mk.injEq, List.set_cons_zero, List.set_cons_succ, List.length_cons, List.length_nil, Value.category, x_nl0, x_nl1, x_nl2, x_nl3, x_nl4, x_nl5, x_nl6, x_nl7, x_nl8, x_nl9, x_nl10, x_nl11, x_nl12, List.map_nil, List.map_cons, List.sum_nil, List.sum_cons, Option.toList_some, Option.toList_none, List.nil_append, List.cons_append, xl_lt, xl_gt, xl_eq, ↓reduceIte, Nat.reduceLT, Nat.reduceAdd, Nat.reduceLeDiff, x_up_self, x_uu, lt0, ln0, lx0, lt1, ln1, lx1, lt2, ln2, lx2, lt3, ln3, lx3, lt4, ln4, lx4, lt5, ln5, lx5, lt6, ln6, lx6, lt7, ln7, lx7, lt8, ln8, lx8, lt9, ln9, lx9, lt10, ln10, lx10, lt11, ln11, lx11, lt12, ln12, lx12, lt13, ln13, lx13, lt14, ln14, lx14, lt15, ln15, lx15, lt16, ln16, lx16, lt17, ln17, lx17, lt18, ln18, lx18, lt19, ln19, lx19, lt20, ln20, lx20, lt21, ln21, lx21, lt22, ln22, lx22, lt23, ln23, lx23, lt24, ln24, lx24, la0, la1, la2, la3, la4, la5, la6, la7, la8, la9, la10, la11, la12, lb0, lb1, lb2, lb3, lb4, lb5, lb6, lb7, lb8, lb9, lb10, lb11, lb12, lt60, lt400, lt900, ltm1, ltm2, ltm4, ltm10000, lt10000, lt1000000, ltm1000000, lt10000000, lt2000, lt100000, Int.toNat_natCast, i1ne0, i0eq0, Int.reduceLT, Int.reduceLE, Int.reduceToNat, Int.reduceNeg, not_true, not_false_iff, false_imp_iff, true_imp_iff, imp_self, implies_true, Option.isSome_some, Bool.false_eq_true, h0, f19, f20, f21, f43, f44, a5, b1, b3, v1, w1, e19, e20, e21, hB, x_upA hM, Nat.reduceEqDiff, nI_1, nI_nat (show A.length < 2 ^ 31 by omega), apre_some v2 (show A.length < 900 by omega) (by decide), apre_some w2 (show A.length < 900 by omega) (by decide)]
      rw [show A.length + 1 = A3.length by rw [hA3, a_len]]
      have hf : ∀ a b c d, frc M [0, 36, 37, 41, 43, 44] σ.1 (x_up (x_up (x_up (x_up σ.1 (M 36) a) (M 37) b) (M 43) c) (M 44) d) := fun a b c d => frc_up (frc_up (frc_up (frc_up frc_rf (by simp)) (by simp)) (by simp)) (by simp)
      have hf2 : ∀ a b c d, frc M [36, 37, 43, 44] σ.1 (x_up (x_up (x_up (x_up σ.1 (M 36) a) (M 37) b) (M 43) c) (M 44) d) := fun a b c d => frc_up (frc_up (frc_up (frc_up frc_rf (by simp)) (by simp)) (by simp)) (by simp)
      refine C2 _ (hf _ _ _ _) ?_ ?_ (P36 _ ?_) (P37 _ ?_) ?_
      · simp [x_upA hM, h0]
      · rw [hA3]
        refine agn_push v2 w2 (by omega) ?_ (x_up_self _ _ _)
        rw [x_upA hM, if_neg (by decide), x_up_self]
      · simp [x_upA hM]
      · simp [x_upA hM]
      · exact aw_frc hM (hf2 _ _ _ _) (by decide) gm
    · have ho' : on_o Q k = false := by cases hq : on_o Q k; rfl; exact absurd hq ho
      rw [if_pos (by rw [ho']; rfl)]
      rw [if_neg ho] at hA3
      rw [← hA3]
      have hf : ∀ a b, frc M [0, 36, 37, 41, 43, 44] σ.1 (x_up (x_up σ.1 (M 36) a) (M 37) b) := fun a b => frc_up (frc_up frc_rf (by simp)) (by simp)
      have hf2 : ∀ a b, frc M [36, 37] σ.1 (x_up (x_up σ.1 (M 36) a) (M 37) b) := fun a b => frc_up (frc_up frc_rf (by simp)) (by simp)
      refine C2 _ (hf _ _) ?_ ?_ (P36 _ ?_) (P37 _ ?_) ?_
      · simp [x_upA hM, h0]
      · rw [hA3]; exact agn_frc hM (hf2 _ _) (by decide) ha
      · simp [x_upA hM]
      · simp [x_upA hM]
      · exact aw_frc hM (hf2 _ _) (by decide) gm
