/-! THE REFERENCE: its constructor -/
/-- the addresses of a reference that lies at a, its arrays from N on -/
def mMg (c : Nat) : Nat := if c ≤ 6 then c - 2 else if 8 ≤ c ∧ c ≤ 11 then c - 3 else if 16 ≤ c ∧ c ≤ 17 then c - 7 else if 19 ≤ c ∧ c ≤ 22 then c - 8 else if c = 24 then 15 else if 28 ≤ c ∧ c ≤ 29 then c - 12 else if 35 ≤ c ∧ c ≤ 41 then c - 17 else if 43 ≤ c ∧ c ≤ 44 then c - 18 else 100 + c
def mM (a N c : Nat) : Nat := if c = 0 then a else if c = 1 then N + 99 else N + mMg c
theorem mMg_c (c : Nat) : (c ≤ 6 ∧ mMg c = c - 2) ∨ (8 ≤ c ∧ c ≤ 11 ∧ mMg c = c - 3) ∨ (16 ≤ c ∧ c ≤ 17 ∧ mMg c = c - 7) ∨ (19 ≤ c ∧ c ≤ 22 ∧ mMg c = c - 8) ∨ (c = 24 ∧ mMg c = 15) ∨ (28 ≤ c ∧ c ≤ 29 ∧ mMg c = c - 12) ∨ (35 ≤ c ∧ c ≤ 41 ∧ mMg c = c - 17) ∨ (43 ≤ c ∧ c ≤ 44 ∧ mMg c = c - 18) ∨ mMg c = 100 + c := by
  unfold mMg
  repeat' split
  all_goals omega
theorem mM_inj {a N : Nat} (h : a < N) : ainj (mM a N) := by
  intro c d e
  unfold mM at e
  have hc := mMg_c c
  have hd := mMg_c d
  by_cases c0 : c = 0
  · rw [if_pos c0] at e
    by_cases d0 : d = 0
    · omega
    · rw [if_neg d0] at e; split at e <;> omega
  · rw [if_neg c0] at e
    by_cases d0 : d = 0
    · rw [if_pos d0] at e; split at e <;> omega
    · rw [if_neg d0] at e
      by_cases c1 : c = 1
      · rw [if_pos c1] at e
        by_cases d1 : d = 1
        · omega
        · rw [if_neg d1] at e; omega
      · rw [if_neg c1] at e
        by_cases d1 : d = 1
        · rw [if_pos d1] at e; omega
        · rw [if_neg d1] at e; omega
def m_new : MS := ((0, fun _ => (0, 0, 0, 0, 0)), (0, fun _ => (0, 0, 0, 0)), (1000, 0, 0), ([], (fun _ => 0), fun _ => false), m_bg (1000, 0, 0), (false, 0, 0, 0, fun _ => 0), [])
theorem n_2 {a N : Nat} : mM a N 2 + 1 = mM a N 3 := rfl
theorem n_44 {a N : Nat} : mM a N 44 + 1 = N + 27 := rfl
theorem t61 : (61 : Int32).toInt = 61 := by decide
theorem t720 : (720 : Int32).toInt = 720 := by decide
theorem t180 : (180 : Int32).toInt = 180 := by decide
theorem t25000 : (25000 : Int32).toInt = 25000 := by decide
theorem aw_rep {w : xM} {M : Nat → Nat} {c t N : Nat} {v : Value} {f : Nat → Value} (h : w (M c) = some (t, List.replicate N v)) : aw w M c t N 0 f := ⟨_, h, by simp, fun i hi => by omega⟩
def m_new0 : MS := ((0, fun _ => (0, 0, 0, 0, 0)), (0, fun _ => (0, 0, 0, 0)), (1000, 0, 0), ([], (fun _ => 0), fun _ => false), ([], false, (fun _ => 0), 0, 0, 0, (fun _ => false), fun _ => false), (false, 0, 0, 0, fun _ => 0), [])
set_option maxRecDepth 20000 in
set_option maxHeartbeats 2000000 in
theorem s_initM {B : Nat} {ad : Nat → Nat} {a N sl : Nat} {w : xM} {K : xK} (ha : a < N) (hB : B ≤ a) (h0 : w a = some (8, .int 0 :: .int 0 :: .null :: .null :: .null :: .null :: .null :: .int 0 :: .null :: .null :: .null :: .null :: .int 0 :: .int 0 :: .int 0 :: .int 0 :: .null :: .null :: .int 0 :: .null :: .null :: .null :: .null :: .int 0 :: .null :: .int 0 :: .int 0 :: .long 0 :: .null :: .null :: .int 0 :: .int 0 :: .long 0 :: .int 0 :: .int 0 :: .null :: .null :: .null :: .null :: .null :: .null :: .null :: .int 0 :: .null :: .null :: []))
    (h : ∀ w', RM w' (mM a N) 0 m_new → (∀ q, q < N → q ≠ a → w' q = w q) → K none (w', N + 27, sl + 60329)) : x_cl (eX8_init B ad) [.ref a] (w, N, sl) K := by
  have hM : ainj (mM a N) := mM_inj ha
  have hBM : ∀ c, B ≤ mM a N c := fun c => by unfold mM; split; exact hB; split <;> omega
  refine x_ev_of (by simp [x_sl, Value.category]) ?_
  show wX8_init B ad K 0 [.ref (mM a N 0)] [] (w, mM a N 2, sl)
  replace h0 : w (mM a N 0) = _ := h0
  have e2 : mM a N 2 + 1 = mM a N 3 := rfl
  have e3 : mM a N 3 + 1 = mM a N 4 := rfl
  have e4 : mM a N 4 + 1 = mM a N 5 := rfl
  have e5 : mM a N 5 + 1 = mM a N 6 := rfl
  have e6 : mM a N 6 + 1 = mM a N 8 := rfl
  have e8 : mM a N 8 + 1 = mM a N 9 := rfl
  have e9 : mM a N 9 + 1 = mM a N 10 := rfl
  have e10 : mM a N 10 + 1 = mM a N 11 := rfl
  have e11 : mM a N 11 + 1 = mM a N 16 := rfl
  have e16 : mM a N 16 + 1 = mM a N 17 := rfl
  have e17 : mM a N 17 + 1 = mM a N 19 := rfl
  have e19 : mM a N 19 + 1 = mM a N 20 := rfl
  have e20 : mM a N 20 + 1 = mM a N 21 := rfl
  have e21 : mM a N 21 + 1 = mM a N 22 := rfl
  have e22 : mM a N 22 + 1 = mM a N 24 := rfl
  have e24 : mM a N 24 + 1 = mM a N 28 := rfl
  have e28 : mM a N 28 + 1 = mM a N 29 := rfl
  have e29 : mM a N 29 + 1 = mM a N 35 := rfl
  have e35 : mM a N 35 + 1 = mM a N 36 := rfl
  have e36 : mM a N 36 + 1 = mM a N 37 := rfl
  have e37 : mM a N 37 + 1 = mM a N 38 := rfl
  have e38 : mM a N 38 + 1 = mM a N 39 := rfl
  have e39 : mM a N 39 + 1 = mM a N 40 := rfl
  have e40 : mM a N 40 + 1 = mM a N 41 := rfl
  have e41 : mM a N 41 + 1 = mM a N 43 := rfl
  have e43 : mM a N 43 + 1 = mM a N 44 := rfl
  have e44 : mM a N 44 + 1 = N + 27 := rfl
  have hout : ∀ q, q < N → q ≠ a → ∀ c, q ≠ mM a N c := fun q q1 q2 c => by unfold mM; split; exact q2; split <;> omega
  generalize mM a N = M at *
  have x2 : ∀ (w : xM) (e f : xE), x_up (x_up w (M 0) e) (M 2) f = x_up (x_up w (M 2) f) (M 0) e := fun _ _ _ => x_uc (ainj_ne hM (by decide))
  have x3 : ∀ (w : xM) (e f : xE), x_up (x_up w (M 0) e) (M 3) f = x_up (x_up w (M 3) f) (M 0) e := fun _ _ _ => x_uc (ainj_ne hM (by decide))
  have x4 : ∀ (w : xM) (e f : xE), x_up (x_up w (M 0) e) (M 4) f = x_up (x_up w (M 4) f) (M 0) e := fun _ _ _ => x_uc (ainj_ne hM (by decide))
  have x5 : ∀ (w : xM) (e f : xE), x_up (x_up w (M 0) e) (M 5) f = x_up (x_up w (M 5) f) (M 0) e := fun _ _ _ => x_uc (ainj_ne hM (by decide))
  have x6 : ∀ (w : xM) (e f : xE), x_up (x_up w (M 0) e) (M 6) f = x_up (x_up w (M 6) f) (M 0) e := fun _ _ _ => x_uc (ainj_ne hM (by decide))
  have x8 : ∀ (w : xM) (e f : xE), x_up (x_up w (M 0) e) (M 8) f = x_up (x_up w (M 8) f) (M 0) e := fun _ _ _ => x_uc (ainj_ne hM (by decide))
  have x9 : ∀ (w : xM) (e f : xE), x_up (x_up w (M 0) e) (M 9) f = x_up (x_up w (M 9) f) (M 0) e := fun _ _ _ => x_uc (ainj_ne hM (by decide))
  have x10 : ∀ (w : xM) (e f : xE), x_up (x_up w (M 0) e) (M 10) f = x_up (x_up w (M 10) f) (M 0) e := fun _ _ _ => x_uc (ainj_ne hM (by decide))
  have x11 : ∀ (w : xM) (e f : xE), x_up (x_up w (M 0) e) (M 11) f = x_up (x_up w (M 11) f) (M 0) e := fun _ _ _ => x_uc (ainj_ne hM (by decide))
  have x16 : ∀ (w : xM) (e f : xE), x_up (x_up w (M 0) e) (M 16) f = x_up (x_up w (M 16) f) (M 0) e := fun _ _ _ => x_uc (ainj_ne hM (by decide))
  have x17 : ∀ (w : xM) (e f : xE), x_up (x_up w (M 0) e) (M 17) f = x_up (x_up w (M 17) f) (M 0) e := fun _ _ _ => x_uc (ainj_ne hM (by decide))
  have x19 : ∀ (w : xM) (e f : xE), x_up (x_up w (M 0) e) (M 19) f = x_up (x_up w (M 19) f) (M 0) e := fun _ _ _ => x_uc (ainj_ne hM (by decide))
  have x20 : ∀ (w : xM) (e f : xE), x_up (x_up w (M 0) e) (M 20) f = x_up (x_up w (M 20) f) (M 0) e := fun _ _ _ => x_uc (ainj_ne hM (by decide))
  have x21 : ∀ (w : xM) (e f : xE), x_up (x_up w (M 0) e) (M 21) f = x_up (x_up w (M 21) f) (M 0) e := fun _ _ _ => x_uc (ainj_ne hM (by decide))
  have x22 : ∀ (w : xM) (e f : xE), x_up (x_up w (M 0) e) (M 22) f = x_up (x_up w (M 22) f) (M 0) e := fun _ _ _ => x_uc (ainj_ne hM (by decide))
  have x24 : ∀ (w : xM) (e f : xE), x_up (x_up w (M 0) e) (M 24) f = x_up (x_up w (M 24) f) (M 0) e := fun _ _ _ => x_uc (ainj_ne hM (by decide))
  have x28 : ∀ (w : xM) (e f : xE), x_up (x_up w (M 0) e) (M 28) f = x_up (x_up w (M 28) f) (M 0) e := fun _ _ _ => x_uc (ainj_ne hM (by decide))
  have x29 : ∀ (w : xM) (e f : xE), x_up (x_up w (M 0) e) (M 29) f = x_up (x_up w (M 29) f) (M 0) e := fun _ _ _ => x_uc (ainj_ne hM (by decide))
  have x35 : ∀ (w : xM) (e f : xE), x_up (x_up w (M 0) e) (M 35) f = x_up (x_up w (M 35) f) (M 0) e := fun _ _ _ => x_uc (ainj_ne hM (by decide))
  have x36 : ∀ (w : xM) (e f : xE), x_up (x_up w (M 0) e) (M 36) f = x_up (x_up w (M 36) f) (M 0) e := fun _ _ _ => x_uc (ainj_ne hM (by decide))
  have x37 : ∀ (w : xM) (e f : xE), x_up (x_up w (M 0) e) (M 37) f = x_up (x_up w (M 37) f) (M 0) e := fun _ _ _ => x_uc (ainj_ne hM (by decide))
  have x38 : ∀ (w : xM) (e f : xE), x_up (x_up w (M 0) e) (M 38) f = x_up (x_up w (M 38) f) (M 0) e := fun _ _ _ => x_uc (ainj_ne hM (by decide))
  have x39 : ∀ (w : xM) (e f : xE), x_up (x_up w (M 0) e) (M 39) f = x_up (x_up w (M 39) f) (M 0) e := fun _ _ _ => x_uc (ainj_ne hM (by decide))
  have x40 : ∀ (w : xM) (e f : xE), x_up (x_up w (M 0) e) (M 40) f = x_up (x_up w (M 40) f) (M 0) e := fun _ _ _ => x_uc (ainj_ne hM (by decide))
  have x41 : ∀ (w : xM) (e f : xE), x_up (x_up w (M 0) e) (M 41) f = x_up (x_up w (M 41) f) (M 0) e := fun _ _ _ => x_uc (ainj_ne hM (by decide))
  have x43 : ∀ (w : xM) (e f : xE), x_up (x_up w (M 0) e) (M 43) f = x_up (x_up w (M 43) f) (M 0) e := fun _ _ _ => x_uc (ainj_ne hM (by decide))
  have x44 : ∀ (w : xM) (e f : xE), x_up (x_up w (M 0) e) (M 44) f = x_up (x_up w (M 44) f) (M 0) e := fun _ _ _ => x_uc (ainj_ne hM (by decide))
  have H : ∀ w1 : xM, w1 (M 0) = some (mo_ M 0 m_new0) → w1 (M 2) = some (100, List.replicate 400 (.int 0)) → w1 (M 3) = some (100, List.replicate 400 (.int 0)) → w1 (M 4) = some (100, List.replicate 400 (.int 0)) → w1 (M 5) = some (100, List.replicate 400 (.int 0)) → w1 (M 6) = some (100, List.replicate 400 (.int 0)) → w1 (M 8) = some (100, List.replicate 4 (.int 0)) → w1 (M 9) = some (100, List.replicate 4 (.int 0)) → w1 (M 10) = some (100, List.replicate 4 (.int 0)) → w1 (M 11) = some (100, List.replicate 4 (.int 0)) → w1 (M 16) = some (100, List.replicate 900 (.int 0)) → w1 (M 17) = some (100, List.replicate 900 (.int 0)) → w1 (M 19) = some (100, List.replicate 900 (.int 0)) → w1 (M 20) = some (100, List.replicate 900 (.int 0)) → w1 (M 21) = some (100, List.replicate 900 (.int 0)) → w1 (M 22) = some (102, List.replicate 900 (.int 0)) → w1 (M 24) = some (101, List.replicate 24 (.long 0)) → w1 (M 28) = some (102, List.replicate 4 (.int 0)) → w1 (M 29) = some (102, List.replicate 4 (.int 0)) → w1 (M 35) = some (100, List.replicate 61 (.int 0)) → w1 (M 36) = some (100, List.replicate 25000 (.int 0)) → w1 (M 37) = some (100, List.replicate 25000 (.int 0)) → w1 (M 38) = some (101, List.replicate 720 (.long 0)) → w1 (M 39) = some (101, List.replicate 60 (.long 0)) → w1 (M 40) = some (100, List.replicate 60 (.int 0)) → w1 (M 41) = some (100, List.replicate 180 (.int 0)) → w1 (M 43) = some (100, List.replicate 900 (.int 0)) → w1 (M 44) = some (100, List.replicate 900 (.int 0)) → (∀ q, q < N → q ≠ a → w1 q = w q) → x_cl (eX8_begin B ad) [.ref (M 0)] (w1, N + 27, sl + 60329) (fun v g => wX8_init B ad K 242 [.ref (M 0)] (v.toList ++ []) g) := by
    intro w1 k0 k2 k3 k4 k5 k6 k8 k9 k10 k11 k16 k17 k19 k20 k21 k22 k24 k28 k29 k35 k36 k37 k38 k39 k40 k41 k43 k44 hfr
    refine s_beginR (S := m_new0) (thr := 0) hM hBM ⟨k0, ⟨aw_rep k2, aw_rep k3, aw_rep k4, aw_rep k5, aw_rep k6⟩, ⟨aw_rep k8, aw_rep k9, aw_rep k10, aw_rep k11⟩, ⟨aw_rep k16, aw_rep k17⟩, ⟨aw_rep k19, aw_rep k20, aw_rep k21, aw_rep k22, k28, k29⟩, ⟨_, k24, by simp, fun i hi => ?_, fun e => by cases e⟩, ⟨⟨_, k35, by simp, fun i hi => ?_⟩, aw_rep k36, aw_rep k37, aw_rep k38, aw_rep k39, aw_rep k40, aw_rep k41⟩, ⟨aw_rep k43, aw_rep k44⟩⟩ fun w' g1 g2 => ?_
    · rw [List.getElem?_replicate, if_pos (by omega)]; rfl
    · have hi1 : i = 0 := Nat.lt_one_iff.mp (show i < 1 from hi)
      subst hi1
      rw [List.getElem?_replicate, if_pos (by decide)]; rfl
    · simp only [eX8_init_242, List.getElem?_cons_zero, List.getElem?_cons_succ, Option.some.injEq, Value.int.injEq, Value.long.injEq, Value.ref.injEq, reduceCtorEq, exists_eq_left', exists_eq_left, exists_and_left, exists_and_right, and_assoc, and_true, true_and, true_or, or_true, x_rfv_ref, x_rfv_null, Prod.mk.injEq, List.set_cons_zero, List.set_cons_succ, List.length_cons, List.length_nil, Value.category, x_nl0, x_nl1, x_nl2, x_nl3, x_nl4, x_nl5, x_nl6, x_nl7, x_nl8, x_nl9, x_nl10, x_nl11, x_nl12, List.map_nil, List.map_cons, List.sum_nil, List.sum_cons, Option.toList_some, Option.toList_none, List.nil_append, List.cons_append, xl_lt, xl_gt, xl_eq, ↓reduceIte, Nat.reduceLT, Nat.reduceAdd, Nat.reduceLeDiff, x_up_self, x_uu, lt0, ln0, lx0, lt1, ln1, lx1, lt2, ln2, lx2, lt3, ln3, lx3, lt4, ln4, lx4, lt5, ln5, lx5, lt6, ln6, lx6, lt7, ln7, lx7, lt8, ln8, lx8, lt9, ln9, lx9, lt10, ln10, lx10, lt11, ln11, lx11, lt12, ln12, lx12, lt13, ln13, lx13, lt14, ln14, lx14, lt15, ln15, lx15, lt16, ln16, lx16, lt17, ln17, lx17, lt18, ln18, lx18, lt19, ln19, lx19, lt20, ln20, lx20, lt21, ln21, lx21, lt22, ln22, lx22, lt23, ln23, lx23, lt24, ln24, lx24, la0, la1, la2, la3, la4, la5, la6, la7, la8, la9, la10, la11, la12, lb0, lb1, lb2, lb3, lb4, lb5, lb6, lb7, lb8, lb9, lb10, lb11, lb12, lt60, lt400, lt900, ltm1, ltm2, ltm4, ltm10000, lt10000, lt1000000, ltm1000000, lt10000000, lt2000, lt100000, Int.toNat_natCast, i1ne0, i0eq0, Int.reduceLT, Int.reduceLE, Int.reduceToNat, Int.reduceNeg, not_true, not_false_iff, false_imp_iff, true_imp_iff, imp_self, implies_true, Option.isSome_some, Bool.false_eq_true]
      exact h w' g1 fun q q1 q2 => (g2 q (hout q q1 q2)).trans (hfr q q1 q2)
  simp only [eX8_init_0, eX8_init_1, eX8_init_4, eX8_init_5, eX8_init_8, eX8_init_10, eX8_init_13, eX8_init_14, eX8_init_17, eX8_init_19, eX8_init_22, eX8_init_23, eX8_init_26, eX8_init_28, eX8_init_31, eX8_init_32, eX8_init_35, eX8_init_37, eX8_init_40, eX8_init_41, eX8_init_44, eX8_init_46, eX8_init_49, eX8_init_50, eX8_init_51, eX8_init_53, eX8_init_56, eX8_init_57, eX8_init_58, eX8_init_60, eX8_init_63, eX8_init_64, eX8_init_65, eX8_init_67, eX8_init_70, eX8_init_71, eX8_init_72, eX8_init_74, eX8_init_77, eX8_init_78, eX8_init_81, eX8_init_84, eX8_init_85, eX8_init_88, eX8_init_90, eX8_init_93, eX8_init_94, eX8_init_97, eX8_init_99, eX8_init_102, eX8_init_103, eX8_init_106, eX8_init_108, eX8_init_111, eX8_init_112, eX8_init_115, eX8_init_117, eX8_init_120, eX8_init_121, eX8_init_124, eX8_init_126, eX8_init_129, eX8_init_130, eX8_init_133, eX8_init_135, eX8_init_138, eX8_init_139, eX8_init_141, eX8_init_143, eX8_init_146, eX8_init_147, eX8_init_148, eX8_init_150, eX8_init_153, eX8_init_154, eX8_init_155, eX8_init_157, eX8_init_160, eX8_init_161, eX8_init_163, eX8_init_165, eX8_init_168, eX8_init_169, eX8_init_172, eX8_init_174, eX8_init_177, eX8_init_178, eX8_init_181, eX8_init_183, eX8_init_186, eX8_init_187, eX8_init_190, eX8_init_192, eX8_init_195, eX8_init_196, eX8_init_198, eX8_init_200, eX8_init_203, eX8_init_204, eX8_init_206, eX8_init_208, eX8_init_211, eX8_init_212, eX8_init_215, eX8_init_217, eX8_init_220, eX8_init_221, eX8_init_224, eX8_init_226, eX8_init_229, eX8_init_230, eX8_init_233, eX8_init_235, eX8_init_238, eX8_init_239, eX8_init_242, List.getElem?_cons_zero, List.getElem?_cons_succ, Option.some.injEq, Value.int.injEq, Value.long.injEq, Value.ref.injEq, reduceCtorEq, exists_eq_left', exists_eq_left, exists_and_left, exists_and_right, and_assoc, and_true, true_and, true_or, or_true, x_rfv_ref, x_rfv_null, Prod.mk.injEq, List.set_cons_zero, List.set_cons_succ, List.length_cons, List.length_nil, Value.category, x_nl0, x_nl1, x_nl2, x_nl3, x_nl4, x_nl5, x_nl6, x_nl7, x_nl8, x_nl9, x_nl10, x_nl11, x_nl12, List.map_nil, List.map_cons, List.sum_nil, List.sum_cons, Option.toList_some, Option.toList_none, List.nil_append, List.cons_append, xl_lt, xl_gt, xl_eq, ↓reduceIte, Nat.reduceLT, Nat.reduceAdd, Nat.reduceLeDiff, x_up_self, x_uu, lt0, ln0, lx0, lt1, ln1, lx1, lt2, ln2, lx2, lt3, ln3, lx3, lt4, ln4, lx4, lt5, ln5, lx5, lt6, ln6, lx6, lt7, ln7, lx7, lt8, ln8, lx8, lt9, ln9, lx9, lt10, ln10, lx10, lt11, ln11, lx11, lt12, ln12, lx12, lt13, ln13, lx13, lt14, ln14, lx14, lt15, ln15, lx15, lt16, ln16, lx16, lt17, ln17, lx17, lt18, ln18, lx18, lt19, ln19, lx19, lt20, ln20, lx20, lt21, ln21, lx21, lt22, ln22, lx22, lt23, ln23, lx23, lt24, ln24, lx24, la0, la1, la2, la3, la4, la5, la6, la7, la8, la9, la10, la11, la12, lb0, lb1, lb2, lb3, lb4, lb5, lb6, lb7, lb8, lb9, lb10, lb11, lb12, lt60, lt400, lt900, ltm1, ltm2, ltm4, ltm10000, lt10000, lt1000000, ltm1000000, lt10000000, lt2000, lt100000, Int.toNat_natCast, i1ne0, i0eq0, Int.reduceLT, Int.reduceLE, Int.reduceToNat, Int.reduceNeg, not_true, not_false_iff, false_imp_iff, true_imp_iff, imp_self, implies_true, Option.isSome_some, Bool.false_eq_true, x_clo, x_clvu, h0, hBM, e2, e3, e4, e5, e6, e8, e9, e10, e11, e16, e17, e19, e20, e21, e22, e24, e28, e29, e35, e36, e37, e38, e39, e40, e41, e43, e44, x_upA hM, Nat.reduceEqDiff, t61, t720, t180, t25000, x2, x3, x4, x5, x6, x8, x9, x10, x11, x16, x17, x19, x20, x21, x22, x24, x28, x29, x35, x36, x37, x38, x39, x40, x41, x43, x44]
  rw [show sl + 400 + 400 + 400 + 400 + 400 + 4 + 4 + 4 + 4 + 900 + 900 + 900 + 900 + 900 + 900 + 24 + 4 + 4 + 61 + 25000 + 25000 + 720 + 60 + 60 + 180 + 900 + 900 = sl + 60329 by omega]
  refine H _ (by rw [x_up_self]; rfl) ?_ ?_ ?_ ?_ ?_ ?_ ?_ ?_ ?_ ?_ ?_ ?_ ?_ ?_ ?_ ?_ ?_ ?_ ?_ ?_ ?_ ?_ ?_ ?_ ?_ ?_ ?_ fun q q1 q2 => ?_
  all_goals first
    | (simp only [x_upA hM, Nat.reduceEqDiff, ↓reduceIte])
    | skip
  have hq := hout q q1 q2
  simp only [x_up, hq, ↓reduceIte]
