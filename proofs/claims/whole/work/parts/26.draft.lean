/-! THE PAGE THAT IS MADE, in the class: cells 6 to 16 -/
def bz (b : Bool) : Int32 := if b then 1 else 0
theorem bz01 (b : Bool) : bz b = 0 ∨ bz b = 1 := by cases b <;> simp [bz]
theorem bz_0 (b : Bool) : bz b = 0 ↔ b = false := by cases b <;> simp [bz]
abbrev It : Type := Nat × Int32 × Int32 × Int32 × Int32
def it_val (t : It) : Int32 := if t.1 = 4 then t.2.2.1 else t.2.1
def it_dep (t : It) : Int32 := if t.1 = 0 then t.2.2.1 else 0
def it_str (t : It) : Int32 := if t.1 = 1 then t.2.2.1 else 0
def it_ord (t : It) : Int32 := if t.1 = 1 then t.2.2.2.1 else 0
def it_shr (t : It) : Int32 := if t.1 = 1 then t.2.2.2.2 else 0
def it_cut (t : It) : Int32 := if t.1 = 4 then t.2.2.2.1 else 0
def it_ic (A : Nat → Nat) (t : It) : Value := if t.1 = 4 then .ref (A (20 + t.2.1.toInt.toNat)) else .null
def icell (ad A : Nat → Nat) (i : Nat) (t : It) (lf we pl : Int32) (sd : Int64) : xE := (3, [.int (nI i), .ref (ad t.1), .int (it_val t), .int (it_dep t), .int (it_str t), .int (it_ord t), .int (it_shr t), it_ic A t, .int (it_cut t), .int lf, .int we, .int pl, .long sd])
/-- Kind's constants -/
def knd (w : xM) (ad : Nat → Nat) : Prop := (∀ i j, i < 6 → j < 6 → ad i = ad j → i = j) ∧ w = w
theorem knd_ex {w : xM} {ad : Nat → Nat} (h : knd w ad) {k : Nat} (hk : k < 6) (P : Nat → Prop) : (∃ i, i < 6 ∧ ad i = ad k ∧ P i) ↔ P k := ⟨fun ⟨i, h1, h2, h3⟩ => by rw [← h.1 i k h1 hk h2]; exact h3, fun h3 => ⟨k, hk, rfl, h3⟩⟩
theorem knd_eq {w : xM} {ad : Nat → Nat} (h : knd w ad) {i j : Nat} (hi : i < 6) (hj : j < 6) : (ad i = ad j) = (i = j) := propext ⟨h.1 i j hi hj, fun e => by rw [e]⟩
def drc (w : xM) (A : Nat → Nat) (sz : Nat) (hb : Int32) (gd tp ins co : Int64) (bs : Nat) (bp : Int32) (VI VP : List Value) (st bst : Nat → Int64) (op cl : Nat → Int32) : Prop :=
  w (A 6) = some (1, [.ref (A 7), .ref (A 8), .int (nI sz), .int hb, .long gd, .long tp, .ref (A 9), .ref (A 12), .ref (A 13), .long ins, .long co, .int (nI bs), .int bp, .ref (A 14)]) ∧ w (A 7) = some (103, VI) ∧ w (A 8) = some (100, VP) ∧ msr w (A 9) (A 10) (A 11) st ∧
  w (A 12) = some (102, [.int (op 0), .int (op 1), .int (op 2), .int (op 3)]) ∧ w (A 13) = some (102, [.int (cl 0), .int (cl 1), .int (cl 2), .int (cl 3)]) ∧ msr w (A 14) (A 15) (A 16) bst
def ainj (A : Nat → Nat) : Prop := ∀ c d, A c = A d → c = d
theorem ainj_eq {A : Nat → Nat} (h : ainj A) (c d : Nat) : (A c = A d) = (c = d) := propext ⟨h c d, fun e => by rw [e]⟩
theorem ainj_ne {A : Nat → Nat} (h : ainj A) {c d : Nat} (hn : c ≠ d) : A c ≠ A d := fun e => hn (h c d e)
theorem x_upA {A : Nat → Nat} (h : ainj A) (w : xM) (c d : Nat) (e : xE) : x_up w (A c) e (A d) = if d = c then some e else w (A d) := by
  by_cases hd : d = c
  · rw [if_pos hd, hd, x_up_self]
  · rw [if_neg hd, x_up_ne _ _ (ainj_ne h hd)]
/-- what lies outside a stretch of cells stays -/
def frm (A : Nat → Nat) (lo hi : Nat) (w w' : xM) : Prop := ∀ q, (∀ i, lo ≤ i → i ≤ hi → q ≠ A i) → w' q = w q
set_option maxRecDepth 20000 in
theorem s_begin {B : Nat} {ad A : Nat → Nat} {sz bs : Nat} {hb bp g d t : Int32} {gd tp ins co : Int64} {VI VP : List Value} {st bst : Nat → Int64} {op cl : Nat → Int32} {σ : xW} {K : xK} (hA : ainj A) (hB : ∀ i, 6 ≤ i → i ≤ 16 → B ≤ A i) (hd : drc σ.1 A sz hb gd tp ins co bs bp VI VP st bst op cl)
    (h : ∀ w' : xM, drc w' A 0 0 d.toInt64 t.toInt64 0 1073741823 0 0 VI VP (fun i => if i = 1 then g.toInt64 else 0) bst (fun _ => 0) (fun _ => 0) → frm A 6 16 σ.1 w' → K none (w', σ.2)) : x_cl (eX0_begin B ad) [.ref (A 6), .int g, .int d, .int t] σ K := by
  obtain ⟨h6, h7, h8, hm, h12, h13, hab⟩ := hd
  have b6 := hB 6 (by decide) (by decide)
  have b12 := hB 12 (by decide) (by decide)
  have b13 := hB 13 (by decide) (by decide)
  refine x_ev_of (by simp [x_sl, Value.category]) ?_
  show wX0_begin B ad K 0 [.ref (A 6), .int g, .int d, .int t, .retAddr 0] [] σ
  simp only [eX0_begin_0, eX0_begin_1, eX0_begin_2, eX0_begin_5, eX0_begin_6, eX0_begin_7, eX0_begin_10, eX0_begin_11, eX0_begin_12, eX0_begin_13, eX0_begin_16, eX0_begin_17, eX0_begin_18, eX0_begin_19, eX0_begin_22, eX0_begin_23, eX0_begin_26, eX0_begin_27, eX0_begin_28, List.getElem?_cons_zero, List.getElem?_cons_succ, Option.some.injEq, Value.int.injEq, Value.long.injEq, Value.ref.injEq, reduceCtorEq, exists_eq_left', exists_eq_left, exists_and_left, exists_and_right, and_assoc, and_true, true_and, true_or, or_true, x_rfv_ref, x_rfv_null, Prod.mk.injEq, List.set_cons_zero, List.set_cons_succ, List.length_cons, List.length_nil, Value.category, x_nl0, x_nl1, x_nl2, x_nl3, x_nl4, x_nl5, x_nl6, x_nl7, x_nl8, x_nl9, x_nl10, x_nl11, x_nl12, List.map_nil, List.map_cons, List.sum_nil, List.sum_cons, Option.toList_some, Option.toList_none, List.nil_append, List.cons_append, xl_lt, xl_gt, xl_eq, ↓reduceIte, Nat.reduceLT, Nat.reduceAdd, Nat.reduceLeDiff, x_up_self, x_uu, lt0, ln0, lx0, lt1, ln1, lx1, lt2, ln2, lx2, lt3, ln3, lx3, lt4, ln4, lx4, lt5, ln5, lx5, lt6, ln6, lx6, lt7, ln7, lx7, lt8, ln8, lx8, lt9, ln9, lx9, lt10, ln10, lx10, lt11, ln11, lx11, lt12, ln12, lx12, lt13, ln13, lx13, lt14, ln14, lx14, lt15, ln15, lx15, lt16, ln16, lx16, lt17, ln17, lx17, lt18, ln18, lx18, lt19, ln19, lx19, lt20, ln20, lx20, lt21, ln21, lx21, lt22, ln22, lx22, lt23, ln23, lx23, lt24, ln24, lx24, la0, la1, la2, la3, la4, la5, la6, la7, la8, la9, la10, la11, la12, lb0, lb1, lb2, lb3, lb4, lb5, lb6, lb7, lb8, lb9, lb10, lb11, lb12, lt60, lt400, lt900, ltm1, ltm2, ltm4, ltm10000, lt10000, lt1000000, ltm1000000, lt10000000, lt2000, lt100000, Int.toNat_natCast, i1ne0, i0eq0, Int.reduceLT, Int.reduceLE, Int.reduceToNat, Int.reduceNeg, not_true, not_false_iff, false_imp_iff, true_imp_iff, imp_self, implies_true, Option.isSome_some, Bool.false_eq_true, h6, b6]
  have e9 : ∀ e, x_up σ.1 (A 6) e (A 9) = σ.1 (A 9) := fun e => x_up_ne _ _ (ainj_ne hA (by decide))
  rw [x_clv (fs := [.long (st 0), .long (st 1), .long (st 2), .long (st 7), .ref (A 10), .ref (A 11)]) (by dsimp only; rw [e9]; exact hm.1)]
  refine s_clear (a := A 10) (b := A 11) (st := st) ?_ (ainj_ne hA (by decide)) ⟨hB 9 (by decide) (by decide), hB 10 (by decide) (by decide), hB 11 (by decide) (by decide)⟩ fun w' hm' hf => ?_
  · obtain ⟨m1, m2, m3⟩ := hm
    exact ⟨by simp [x_upA hA, m1], by simp [x_upA hA, m2], by simp [x_upA hA, m3]⟩
  · dsimp only at hf
    have ff : ∀ c, c ≠ 9 → c ≠ 10 → c ≠ 11 → c ≠ 6 → w' (A c) = σ.1 (A c) := fun c h1 h2 h3 h4 => by
      rw [hf _ (ainj_ne hA h1) (ainj_ne hA h2) (ainj_ne hA h3), x_upA hA, if_neg h4]
    have g6 : w' (A 6) = some (1, [.ref (A 7), .ref (A 8), .int 0, .int 0, .long d.toInt64, .long t.toInt64, .ref (A 9), .ref (A 12), .ref (A 13), .long ins, .long co, .int (nI bs), .int bp, .ref (A 14)]) := by
      rw [hf _ (ainj_ne hA (by decide)) (ainj_ne hA (by decide)) (ainj_ne hA (by decide)), x_up_self]
    have g12 := (ff 12 (by decide) (by decide) (by decide) (by decide)).trans h12
    have g13 := (ff 13 (by decide) (by decide) (by decide) (by decide)).trans h13
    simp only [eX0_begin_31, eX0_begin_32, List.getElem?_cons_zero, List.getElem?_cons_succ, Option.some.injEq, Value.int.injEq, Value.long.injEq, Value.ref.injEq, reduceCtorEq, exists_eq_left', exists_eq_left, exists_and_left, exists_and_right, and_assoc, and_true, true_and, true_or, or_true, x_rfv_ref, x_rfv_null, Prod.mk.injEq, List.set_cons_zero, List.set_cons_succ, List.length_cons, List.length_nil, Value.category, x_nl0, x_nl1, x_nl2, x_nl3, x_nl4, x_nl5, x_nl6, x_nl7, x_nl8, x_nl9, x_nl10, x_nl11, x_nl12, List.map_nil, List.map_cons, List.sum_nil, List.sum_cons, Option.toList_some, Option.toList_none, List.nil_append, List.cons_append, xl_lt, xl_gt, xl_eq, ↓reduceIte, Nat.reduceLT, Nat.reduceAdd, Nat.reduceLeDiff, x_up_self, x_uu, lt0, ln0, lx0, lt1, ln1, lx1, lt2, ln2, lx2, lt3, ln3, lx3, lt4, ln4, lx4, lt5, ln5, lx5, lt6, ln6, lx6, lt7, ln7, lx7, lt8, ln8, lx8, lt9, ln9, lx9, lt10, ln10, lx10, lt11, ln11, lx11, lt12, ln12, lx12, lt13, ln13, lx13, lt14, ln14, lx14, lt15, ln15, lx15, lt16, ln16, lx16, lt17, ln17, lx17, lt18, ln18, lx18, lt19, ln19, lx19, lt20, ln20, lx20, lt21, ln21, lx21, lt22, ln22, lx22, lt23, ln23, lx23, lt24, ln24, lx24, la0, la1, la2, la3, la4, la5, la6, la7, la8, la9, la10, la11, la12, lb0, lb1, lb2, lb3, lb4, lb5, lb6, lb7, lb8, lb9, lb10, lb11, lb12, lt60, lt400, lt900, ltm1, ltm2, ltm4, ltm10000, lt10000, lt1000000, ltm1000000, lt10000000, lt2000, lt100000, Int.toNat_natCast, i1ne0, i0eq0, Int.reduceLT, Int.reduceLE, Int.reduceToNat, Int.reduceNeg, not_true, not_false_iff, false_imp_iff, true_imp_iff, imp_self, implies_true, Option.isSome_some, Bool.false_eq_true]
    iterate 5 (rw [eX0_begin_34]; simp only [eX0_begin_36, eX0_begin_37, eX0_begin_40, eX0_begin_41, eX0_begin_44, eX0_begin_46, eX0_begin_47, eX0_begin_48, eX0_begin_49, eX0_begin_52, eX0_begin_54, eX0_begin_55, eX0_begin_56, eX0_begin_59, eX0_begin_62, eX0_begin_63, eX0_begin_64, eX0_begin_67, eX0_begin_68, eX0_begin_71, eX0_begin_74, eX0_begin_75, eX0_begin_76, eX0_begin_79, eX0_begin_80, eX0_begin_81, eX0_begin_84, List.getElem?_cons_zero, List.getElem?_cons_succ, Option.some.injEq, Value.int.injEq, Value.long.injEq, Value.ref.injEq, reduceCtorEq, exists_eq_left', exists_eq_left, exists_and_left, exists_and_right, and_assoc, and_true, true_and, true_or, or_true, x_rfv_ref, x_rfv_null, Prod.mk.injEq, List.set_cons_zero, List.set_cons_succ, List.length_cons, List.length_nil, Value.category, x_nl0, x_nl1, x_nl2, x_nl3, x_nl4, x_nl5, x_nl6, x_nl7, x_nl8, x_nl9, x_nl10, x_nl11, x_nl12, List.map_nil, List.map_cons, List.sum_nil, List.sum_cons, Option.toList_some, Option.toList_none, List.nil_append, List.cons_append, xl_lt, xl_gt, xl_eq, ↓reduceIte, Nat.reduceLT, Nat.reduceAdd, Nat.reduceLeDiff, x_up_self, x_uu, lt0, ln0, lx0, lt1, ln1, lx1, lt2, ln2, lx2, lt3, ln3, lx3, lt4, ln4, lx4, lt5, ln5, lx5, lt6, ln6, lx6, lt7, ln7, lx7, lt8, ln8, lx8, lt9, ln9, lx9, lt10, ln10, lx10, lt11, ln11, lx11, lt12, ln12, lx12, lt13, ln13, lx13, lt14, ln14, lx14, lt15, ln15, lx15, lt16, ln16, lx16, lt17, ln17, lx17, lt18, ln18, lx18, lt19, ln19, lx19, lt20, ln20, lx20, lt21, ln21, lx21, lt22, ln22, lx22, lt23, ln23, lx23, lt24, ln24, lx24, la0, la1, la2, la3, la4, la5, la6, la7, la8, la9, la10, la11, la12, lb0, lb1, lb2, lb3, lb4, lb5, lb6, lb7, lb8, lb9, lb10, lb11, lb12, lt60, lt400, lt900, ltm1, ltm2, ltm4, ltm10000, lt10000, lt1000000, ltm1000000, lt10000000, lt2000, lt100000, Int.toNat_natCast, i1ne0, i0eq0, Int.reduceLT, Int.reduceLE, Int.reduceToNat, Int.reduceNeg, not_true, not_false_iff, false_imp_iff, true_imp_iff, imp_self, implies_true, Option.isSome_some, Bool.false_eq_true, g6, g12, g13, b6, b12, b13, x_upA hA, Nat.reduceEqDiff])
    refine h _ ?_ fun q hq => ?_
    · obtain ⟨m1, m2, m3⟩ := hm'
      obtain ⟨a1, a2, a3⟩ := hab
      refine ⟨?_, ?_, ?_, ⟨?_, ?_, ?_⟩, ?_, ?_, ⟨?_, ?_, ?_⟩⟩
      · simp [x_upA hA]; rfl
      · simp [x_upA hA]; rw [ff 7 (by decide) (by decide) (by decide) (by decide)]; exact h7
      · simp [x_upA hA]; rw [ff 8 (by decide) (by decide) (by decide) (by decide)]; exact h8
      · simp [x_upA hA]; exact m1
      · simp [x_upA hA]; exact m2
      · simp [x_upA hA]; exact m3
      · simp [x_upA hA]
      · simp [x_upA hA]
      · simp [x_upA hA]; rw [ff 14 (by decide) (by decide) (by decide) (by decide)]; exact a1
      · simp [x_upA hA]; rw [ff 15 (by decide) (by decide) (by decide) (by decide)]; exact a2
      · simp [x_upA hA]; rw [ff 16 (by decide) (by decide) (by decide) (by decide)]; exact a3
    · have n6 := hq 6 (by decide) (by decide)
      have n12 := hq 12 (by decide) (by decide)
      have n13 := hq 13 (by decide) (by decide)
      simp [x_up, n6, n12, n13]
      rw [hf q (hq 9 (by decide) (by decide)) (hq 10 (by decide) (by decide)) (hq 11 (by decide) (by decide))]
      simp [x_up, n6]
