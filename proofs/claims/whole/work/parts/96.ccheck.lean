/-! THE CLASS: check -/
/-- item cells with their tallies; all else as in w0 -/
def tal (w0 w : xM) (ad A : Nat → Nat) (S : MS) (pl : Nat → Int32) (sd : Nat → Int64) : Prop := (∀ q, (∀ i, i < S.1.1 → q ≠ A (100 + i)) → w q = w0 q) ∧ ∀ i, i < S.1.1 → w (A (100 + i)) = some (icell ad A i (S.1.2 i) (S.2.2.2.1.2.1 i) (bz (S.2.2.2.1.2.2 i)) (pl i) (sd i))
theorem tal_up {w0 w : xM} {ad A : Nat → Nat} {S : MS} {pl : Nat → Int32} {sd : Nat → Int64} {i : Nat} {p : Int32} {s : Int64} (hA : ainj A) (hi : i < S.1.1) (h : tal w0 w ad A S pl sd) : tal w0 (x_up w (A (100 + i)) (icell ad A i (S.1.2 i) (S.2.2.2.1.2.1 i) (bz (S.2.2.2.1.2.2 i)) p s)) ad A S (fun j => if j = i then p else pl j) (fun j => if j = i then s else sd j) := by
  refine ⟨fun q hq => ?_, fun j hj => ?_⟩
  · rw [x_up_ne _ _ (hq i hi)]; exact h.1 q hq
  · by_cases z : j = i
    · rw [z, x_up_self]; simp
    · rw [x_upA hA, if_neg (by omega), h.2 j hj]; simp [z]
theorem tal_at {w0 w : xM} {ad A : Nat → Nat} {S : MS} {pl : Nat → Int32} {sd : Nat → Int64} {c : Nat} (hA : ainj A) (h : tal w0 w ad A S pl sd) (hc : c < 100 ∨ 100 + S.1.1 ≤ c) : w (A c) = w0 (A c) := h.1 _ fun i hi => ainj_ne hA (by omega)
theorem tal_RC {w0 w : xM} {ad A : Nat → Nat} {S : MS} {pl : Nat → Int32} {sd : Nat → Int64} (hA : ainj A) (hi : iv S) (hR : RC w0 ad A S) (h : tal w0 w ad A S pl sd) : RC w ad A S := by
  have hni := hi.1.1
  have h4 := hi.1.2.1
  have f : ∀ c, c < 100 ∨ 100 + S.1.1 ≤ c → w (A c) = w0 (A c) := fun c hc => tal_at hA h hc
  obtain ⟨g0, gi, gc, gp, gl, gd, gI, gC, gP⟩ := hR
  exact ⟨(f 0 (by omega)).trans g0, RCi_mv gi (f 1 (by omega)) fun _ _ => rfl, RCc_mv gc (f 2 (by omega)) fun _ _ => rfl, RCp_mv gp (f 3 (by omega)) fun _ _ => rfl, RCl_mv gl (fun c hc => f c (by omega)) rfl fun _ _ => rfl, RCd_mv gd (fun c h1 h2 => f c (by omega)) (fun _ _ _ => rfl) fun _ _ => rfl, fun i hi => ⟨pl i, sd i, h.2 i hi⟩, RCC_mv gC fun k hk => f _ (by omega), RCP_mv gP (fun c h1 h2 => f c (by omega)) fun _ _ _ => rfl⟩
theorem tal_0 {w : xM} {ad A : Nat → Nat} {S : MS} (h : RCI w ad A S.1 S.2.2.2.1.2.1 S.2.2.2.1.2.2) : ∃ pl sd, tal w w ad A S pl sd := by
  have hc : ∀ i, ∃ ps : Int32 × Int64, i < S.1.1 → w (A (100 + i)) = some (icell ad A i (S.1.2 i) (S.2.2.2.1.2.1 i) (bz (S.2.2.2.1.2.2 i)) ps.1 ps.2) := fun i => by
    by_cases q : i < S.1.1
    · obtain ⟨pl, sd, e⟩ := h i q
      exact ⟨(pl, sd), fun _ => e⟩
    · exact ⟨(0, 0), fun z => absurd z q⟩
  exact ⟨fun i => (hc i).choose.1, fun i => (hc i).choose.2, fun _ _ => rfl, fun i hi => (hc i).choose_spec hi⟩
def d_cnt (D : List (Nat × Int32)) (i : Nat) : Nat := (D.map (fun q => q.1)).count i
def d_sum (D : List (Nat × Int32)) (i : Nat) : Int := (D.map (fun q => if q.1 = i then q.2.toInt else 0)).sum
/-- D: entries of ended pages; L: items of the page and the line -/
def tly (S : MS) (D : List (Nat × Int32)) (L : List Nat) (pl : Nat → Int32) (sd : Nat → Int64) : Prop := ∀ i, i < S.1.1 → pl i = bz (S.2.2.2.1.2.2 i) + nI (if m_kd S i = 4 then 0 else d_cnt D i) + nI (L.count i) ∧ sd i = Int64.ofInt (if m_kd S i = 4 then d_sum D i else 0)
theorem ofI_add (a : Int) (x : Int32) : Int64.ofInt a + x.toInt64 = Int64.ofInt (a + x.toInt) := by
  refine k64 _ ?_
  rw [Int64.toInt_add, Int64.toInt_ofInt, Int64.toInt_ofInt, i32_64, Int.bmod_add_bmod]
theorem d_cnt_ap {D : List (Nat × Int32)} {q : Nat × Int32} {i : Nat} : d_cnt (D ++ [q]) i = d_cnt D i + (if q.1 = i then 1 else 0) := by
  unfold d_cnt
  rw [List.map_append, List.count_append, List.map_cons, List.map_nil, List.count_singleton]
  by_cases z : q.1 = i <;> simp [z]
theorem d_sum_ap {D : List (Nat × Int32)} {q : Nat × Int32} {i : Nat} : d_sum (D ++ [q]) i = d_sum D i + (if q.1 = i then q.2.toInt else 0) := by
  unfold d_sum
  rw [List.map_append, List.sum_append, List.map_cons, List.map_nil, List.sum_cons, List.sum_nil, Int.add_zero]
theorem l_cnt_ap {L : List Nat} {a i : Nat} : (L ++ [a]).count i = L.count i + (if a = i then 1 else 0) := by
  rw [List.count_append, List.count_singleton]
  by_cases z : a = i <;> simp [z]
theorem tly_page {S : MS} {D : List (Nat × Int32)} {q : Nat × Int32} {pl : Nat → Int32} {sd : Nat → Int64} (h : tly S D [] pl sd) (hq : q.1 < S.1.1) : tly S (D ++ [q]) [] (fun j => if j = q.1 then (if (S.1.2 q.1).1 = 4 then pl q.1 else pl q.1 + 1) else pl j) (fun j => if j = q.1 then (if (S.1.2 q.1).1 = 4 then sd q.1 + q.2.toInt64 else sd q.1) else sd j) := fun i hi => by
  obtain ⟨h1, h2⟩ := h i hi
  have z0 : nI (([] : List Nat).count i) = 0 := rfl
  rw [z0] at h1 ⊢
  rw [d_cnt_ap, d_sum_ap]
  by_cases z : i = q.1
  · subst z
    dsimp only
    rw [if_pos rfl, if_pos rfl, if_pos rfl, if_pos rfl, h1, h2]
    by_cases k : (S.1.2 q.1).1 = 4
    · have k' : m_kd S q.1 = 4 := k
      rw [if_pos k, if_pos k, if_pos k', if_pos k', if_pos k', if_pos k', ofI_add]
      exact ⟨rfl, rfl⟩
    · have k' : ¬ m_kd S q.1 = 4 := k
      rw [if_neg k, if_neg k, if_neg k', if_neg k', if_neg k', if_neg k', Int32.add_zero, Int32.add_zero, Int32.add_assoc, nI_1]
      exact ⟨rfl, rfl⟩
  · have z' : ¬ q.1 = i := fun y => z y.symm
    dsimp only
    rw [if_neg z, if_neg z, if_neg z', if_neg z', Nat.add_zero, Int.add_zero]
    exact ⟨h1, h2⟩
theorem tly_one {S : MS} {D : List (Nat × Int32)} {L : List Nat} {i0 : Nat} {pl : Nat → Int32} {sd : Nat → Int64} (h : tly S D L pl sd) : tly S D (L ++ [i0]) (fun j => if j = i0 then pl i0 + 1 else pl j) (fun j => if j = i0 then sd i0 else sd j) := fun i hi => by
  obtain ⟨h1, h2⟩ := h i hi
  rw [l_cnt_ap]
  by_cases z : i0 = i
  · subst z
    dsimp only
    rw [if_pos rfl, if_pos rfl, h1, h2, Int32.add_assoc, nI_1, if_pos (show i0 = i0 from rfl)]
    exact ⟨rfl, rfl⟩
  · have z' : ¬ i = i0 := fun y => z y.symm
    dsimp only
    rw [if_neg z', if_neg z', if_neg z, Nat.add_zero]
    exact ⟨h1, h2⟩
theorem tly_right {S : MS} {pl : Nat → Int32} {sd : Nat → Int64} (hi : iv S) (h : tly S (pg_it S.2.2.2.2.2.2) (m_all S) pl sd) {i : Nat} (hl : i < S.1.1) : c_right (S.1.2 i) (S.2.2.2.1.2.1 i) (pl i) (sd i) = true := by
  obtain ⟨h1, h2⟩ := h i hl
  obtain ⟨-, c2, c3⟩ := hi.2.2.2.1
  unfold c_right
  have ec : d_cnt (pg_it S.2.2.2.2.2.2) i = p_cnt S.2.2.2.2.2.2 i := rfl
  have es : d_sum (pg_it S.2.2.2.2.2.2) i = p_sum S.2.2.2.2.2.2 i := rfl
  rw [ec] at h1
  rw [es] at h2
  by_cases k : (S.1.2 i).1 = 4
  · have k' : m_kd S i = 4 := k
    obtain ⟨x1, x2, x3⟩ := c3 i hl k
    rw [if_pos k] 
    rw [if_pos k'] at h1 h2
    refine decide_eq_true ⟨?_, ?_⟩
    · rw [h1, x1, x2]
      split <;> rfl
    · rw [h2, ofI_add, x3]
      have ev : it_val (S.1.2 i) = (S.1.2 i).2.2.1 := if_pos k
      rw [ev]
      refine k64 _ ?_
      rw [Int64.toInt_ofInt, i32_64]
      have := ((hi.1.2.2.1 i).2.2.2.2.2 k).2
      have hs : (Int64.size : Int) = 18446744073709551616 := rfl
      exact Int.bmod_eq_of_le (by omega) (by omega)
  · have k' : ¬ m_kd S i = 4 := k
    rw [if_neg k]
    rw [if_neg k'] at h1
    have x := c2 i hl k
    refine decide_eq_true ?_
    rw [h1]
    have eb : bz (S.2.2.2.1.2.2 i) = nI (if S.2.2.2.1.2.2 i = true then 1 else 0) := by
      cases S.2.2.2.1.2.2 i <;> rfl
    rw [eb, nI_add, nI_add, x]
    rfl
/-- pages: inner loop -/
theorem tg_in {B : Nat} {ad A : Nat → Nat} {K : xK} {S : MS} {w0 : xM} {p : Nat} {D : List (Nat × Int32)} (hi : iv S) (hA : ainj A) (hB : ∀ c, B ≤ A c) (hR : RC w0 ad A S) (kn : knd w0 ad) (kA : ∀ i j, i < 6 → ad i ≠ A j) (hp : p < S.2.2.2.2.2.2.length) (hlt : ∀ q, q ∈ (pg_at S.2.2.2.2.2.2 p).1 → q.1 < S.1.1) :
    ∀ d k, d + k = (pg_at S.2.2.2.2.2.2 p).1.length → ∀ (w : xM) (s : Nat × Nat) (v4 : Value) (pl : Nat → Int32) (sd : Nat → Int64), v4.category = 1 → tal w0 w ad A S pl sd → tly S (D ++ (pg_at S.2.2.2.2.2.2 p).1.take k) [] pl sd →
    (∀ w' k' v4' pl' sd', v4'.category = 1 → tal w0 w' ad A S pl' sd' → tly S (D ++ (pg_at S.2.2.2.2.2.2 p).1) [] pl' sd' → wX7_tallyPages B ad K 73 [.ref (A 0), .int (nI p), .ref (A (1000 + 6 * p)), .int k', v4'] [] (w', s)) → wX7_tallyPages B ad K 19 [.ref (A 0), .int (nI p), .ref (A (1000 + 6 * p)), .int (nI k), v4] [] (w, s) := by
  have hl := pg_len hi hp
  have hni := hi.1.1
  obtain ⟨g0, ⟨V, v1, v2⟩, -, -, -, -, -, -, gP⟩ := hR
  unfold pbc at g0
  obtain ⟨p1, -, p4, p5⟩ := gP p hp
  have en : Int32.ofNat (pg_at S.2.2.2.2.2.2 p).1.length = nI (pg_at S.2.2.2.2.2.2 p).1.length := rfl
  have tl : (nI (pg_at S.2.2.2.2.2.2 p).1.length).toInt = ((pg_at S.2.2.2.2.2.2 p).1.length : Int) := nI_toInt (by omega)
  intro d
  induction d with
  | zero =>
    intro k hk w s v4 pl sd c4 ht hy h
    have q1 := (tal_at (c := 1000 + 6 * p) hA ht (by omega)).trans p1
    have q4 := (tal_at (c := 1000 + 6 * p + 4) hA ht (by omega)).trans p4
    have t1 : (nI k).toInt = (k : Int) := nI_toInt (by omega)
    rw [eX7_tallyPages_19]
    simp only [eX7_tallyPages_20, eX7_tallyPages_21, eX7_tallyPages_24, eX7_tallyPages_25, List.getElem?_cons_zero, List.getElem?_cons_succ, Option.some.injEq, Value.int.injEq, Value.long.injEq, Value.ref.injEq, reduceCtorEq, exists_eq_left', exists_eq_left, exists_and_left, exists_and_right, and_assoc, and_true, true_and, true_or, or_true, x_rfv_ref, x_rfv_null, Prod.mk.injEq, List.set_cons_zero, List.set_cons_succ, List.length_cons, List.length_nil, Value.category, x_nl0, x_nl1, x_nl2, x_nl3, x_nl4, x_nl5, x_nl6, x_nl7, x_nl8, x_nl9, x_nl10, x_nl11, x_nl12, List.map_nil, List.map_cons, List.sum_nil, List.sum_cons, Option.toList_some, Option.toList_none, List.nil_append, List.cons_append, xl_lt, xl_gt, xl_eq, ↓reduceIte, Nat.reduceLT, Nat.reduceAdd, Nat.reduceLeDiff, x_up_self, x_uu, lt0, ln0, lx0, lt1, ln1, lx1, lt2, ln2, lx2, lt3, ln3, lx3, lt4, ln4, lx4, lt5, ln5, lx5, lt6, ln6, lx6, lt7, ln7, lx7, lt8, ln8, lx8, lt9, ln9, lx9, lt10, ln10, lx10, lt11, ln11, lx11, lt12, ln12, lx12, lt13, ln13, lx13, lt14, ln14, lx14, lt15, ln15, lx15, lt16, ln16, lx16, lt17, ln17, lx17, lt18, ln18, lx18, lt19, ln19, lx19, lt20, ln20, lx20, lt21, ln21, lx21, lt22, ln22, lx22, lt23, ln23, lx23, lt24, ln24, lx24, la0, la1, la2, la3, la4, la5, la6, la7, la8, la9, la10, la11, la12, lb0, lb1, lb2, lb3, lb4, lb5, lb6, lb7, lb8, lb9, lb10, lb11, lb12, lt60, lt400, lt900, ltm1, ltm2, ltm4, ltm10000, lt10000, lt1000000, ltm1000000, lt10000000, lt2000, lt100000, Int.toNat_natCast, i1ne0, i0eq0, Int.reduceLT, Int.reduceLE, Int.reduceToNat, Int.reduceNeg, not_true, not_false_iff, false_imp_iff, true_imp_iff, imp_self, implies_true, Option.isSome_some, Bool.false_eq_true, q1, q4, List.length_map, en, tl, t1]
    rw [if_neg (by omega)]
    rw [List.take_of_length_le (by omega)] at hy
    exact h w (nI k) v4 pl sd c4 ht hy
  | succ d ih =>
    intro k hk w s v4 pl sd c4 ht hy h
    have q0 := (tal_at (c := 0) hA ht (by omega)).trans g0
    have qi := (tal_at (c := 1) hA ht (by omega)).trans v1
    have q1 := (tal_at (c := 1000 + 6 * p) hA ht (by omega)).trans p1
    have q4 := (tal_at (c := 1000 + 6 * p + 4) hA ht (by omega)).trans p4
    have q5 := (tal_at (c := 1000 + 6 * p + 5) hA ht (by omega)).trans p5
    have t1 : (nI k).toInt = (k : Int) := nI_toInt (by omega)
    have hk' : k < (pg_at S.2.2.2.2.2.2 p).1.length := by omega
    obtain ⟨q, eq⟩ : ∃ q, (pg_at S.2.2.2.2.2.2 p).1[k]? = some q := ⟨_, List.getElem?_eq_getElem hk'⟩
    have qn := hlt q (List.mem_of_getElem? eq)
    have x4 : x_ix (nI k) ((pg_at S.2.2.2.2.2.2 p).1.map fun q => Value.int (nI q.1)) = some (.int (nI q.1)) := by
      rw [x_ix_nI (by omega), List.getElem?_map, eq]; rfl
    have x5 : x_ix (nI k) ((pg_at S.2.2.2.2.2.2 p).1.map fun q => Value.int q.2) = some (.int q.2) := by
      rw [x_ix_nI (by omega), List.getElem?_map, eq]; rfl
    have xV : x_ix (nI q.1) V = some (.ref (A (100 + q.1))) := by
      rw [x_ix_nI (by omega)]; exact v2.2 q.1 qn
    have cq := ht.2 q.1 qn
    have cq' := cq
    unfold icell at cq'
    rw [eX7_tallyPages_19]
    simp only [eX7_tallyPages_20, eX7_tallyPages_21, eX7_tallyPages_24, eX7_tallyPages_25, List.getElem?_cons_zero, List.getElem?_cons_succ, Option.some.injEq, Value.int.injEq, Value.long.injEq, Value.ref.injEq, reduceCtorEq, exists_eq_left', exists_eq_left, exists_and_left, exists_and_right, and_assoc, and_true, true_and, true_or, or_true, x_rfv_ref, x_rfv_null, Prod.mk.injEq, List.set_cons_zero, List.set_cons_succ, List.length_cons, List.length_nil, Value.category, x_nl0, x_nl1, x_nl2, x_nl3, x_nl4, x_nl5, x_nl6, x_nl7, x_nl8, x_nl9, x_nl10, x_nl11, x_nl12, List.map_nil, List.map_cons, List.sum_nil, List.sum_cons, Option.toList_some, Option.toList_none, List.nil_append, List.cons_append, xl_lt, xl_gt, xl_eq, ↓reduceIte, Nat.reduceLT, Nat.reduceAdd, Nat.reduceLeDiff, x_up_self, x_uu, lt0, ln0, lx0, lt1, ln1, lx1, lt2, ln2, lx2, lt3, ln3, lx3, lt4, ln4, lx4, lt5, ln5, lx5, lt6, ln6, lx6, lt7, ln7, lx7, lt8, ln8, lx8, lt9, ln9, lx9, lt10, ln10, lx10, lt11, ln11, lx11, lt12, ln12, lx12, lt13, ln13, lx13, lt14, ln14, lx14, lt15, ln15, lx15, lt16, ln16, lx16, lt17, ln17, lx17, lt18, ln18, lx18, lt19, ln19, lx19, lt20, ln20, lx20, lt21, ln21, lx21, lt22, ln22, lx22, lt23, ln23, lx23, lt24, ln24, lx24, la0, la1, la2, la3, la4, la5, la6, la7, la8, la9, la10, la11, la12, lb0, lb1, lb2, lb3, lb4, lb5, lb6, lb7, lb8, lb9, lb10, lb11, lb12, lt60, lt400, lt900, ltm1, ltm2, ltm4, ltm10000, lt10000, lt1000000, ltm1000000, lt10000000, lt2000, lt100000, Int.toNat_natCast, i1ne0, i0eq0, Int.reduceLT, Int.reduceLE, Int.reduceToNat, Int.reduceNeg, not_true, not_false_iff, false_imp_iff, true_imp_iff, imp_self, implies_true, Option.isSome_some, Bool.false_eq_true, q1, q4, List.length_map, en, tl, t1]
    rw [if_pos (by omega)]
    simp only [eX7_tallyPages_28, eX7_tallyPages_29, eX7_tallyPages_32, eX7_tallyPages_33, eX7_tallyPages_34, eX7_tallyPages_36, eX7_tallyPages_38, eX7_tallyPages_39, eX7_tallyPages_40, eX7_tallyPages_43, eX7_tallyPages_44, eX7_tallyPages_45, List.getElem?_cons_zero, List.getElem?_cons_succ, Option.some.injEq, Value.int.injEq, Value.long.injEq, Value.ref.injEq, reduceCtorEq, exists_eq_left', exists_eq_left, exists_and_left, exists_and_right, and_assoc, and_true, true_and, true_or, or_true, x_rfv_ref, x_rfv_null, Prod.mk.injEq, List.set_cons_zero, List.set_cons_succ, List.length_cons, List.length_nil, Value.category, x_nl0, x_nl1, x_nl2, x_nl3, x_nl4, x_nl5, x_nl6, x_nl7, x_nl8, x_nl9, x_nl10, x_nl11, x_nl12, List.map_nil, List.map_cons, List.sum_nil, List.sum_cons, Option.toList_some, Option.toList_none, List.nil_append, List.cons_append, xl_lt, xl_gt, xl_eq, ↓reduceIte, Nat.reduceLT, Nat.reduceAdd, Nat.reduceLeDiff, x_up_self, x_uu, lt0, ln0, lx0, lt1, ln1, lx1, lt2, ln2, lx2, lt3, ln3, lx3, lt4, ln4, lx4, lt5, ln5, lx5, lt6, ln6, lx6, lt7, ln7, lx7, lt8, ln8, lx8, lt9, ln9, lx9, lt10, ln10, lx10, lt11, ln11, lx11, lt12, ln12, lx12, lt13, ln13, lx13, lt14, ln14, lx14, lt15, ln15, lx15, lt16, ln16, lx16, lt17, ln17, lx17, lt18, ln18, lx18, lt19, ln19, lx19, lt20, ln20, lx20, lt21, ln21, lx21, lt22, ln22, lx22, lt23, ln23, lx23, lt24, ln24, lx24, la0, la1, la2, la3, la4, la5, la6, la7, la8, la9, la10, la11, la12, lb0, lb1, lb2, lb3, lb4, lb5, lb6, lb7, lb8, lb9, lb10, lb11, lb12, lt60, lt400, lt900, ltm1, ltm2, ltm4, ltm10000, lt10000, lt1000000, ltm1000000, lt10000000, lt2000, lt100000, Int.toNat_natCast, i1ne0, i0eq0, Int.reduceLT, Int.reduceLE, Int.reduceToNat, Int.reduceNeg, not_true, not_false_iff, false_imp_iff, true_imp_iff, imp_self, implies_true, Option.isSome_some, Bool.false_eq_true, q1, q4, x4, q0]
    refine s_within ?_
    have d0 : (0 : Int32).toInt = 0 := by decide
    have tq : (nI q.1).toInt = (q.1 : Int) := nI_toInt (by omega)
    rw [z01_t (by rw [d0, nI_m1 (by omega), tq]; omega)]
    simp only [eX7_tallyPages_48, eX7_tallyPages_51, eX7_tallyPages_52, eX7_tallyPages_55, eX7_tallyPages_57, eX7_tallyPages_58, eX7_tallyPages_59, eX7_tallyPages_62, eX7_tallyPages_63, eX7_tallyPages_64, List.getElem?_cons_zero, List.getElem?_cons_succ, Option.some.injEq, Value.int.injEq, Value.long.injEq, Value.ref.injEq, reduceCtorEq, exists_eq_left', exists_eq_left, exists_and_left, exists_and_right, and_assoc, and_true, true_and, true_or, or_true, x_rfv_ref, x_rfv_null, Prod.mk.injEq, List.set_cons_zero, List.set_cons_succ, List.length_cons, List.length_nil, Value.category, x_nl0, x_nl1, x_nl2, x_nl3, x_nl4, x_nl5, x_nl6, x_nl7, x_nl8, x_nl9, x_nl10, x_nl11, x_nl12, List.map_nil, List.map_cons, List.sum_nil, List.sum_cons, Option.toList_some, Option.toList_none, List.nil_append, List.cons_append, xl_lt, xl_gt, xl_eq, ↓reduceIte, Nat.reduceLT, Nat.reduceAdd, Nat.reduceLeDiff, x_up_self, x_uu, lt0, ln0, lx0, lt1, ln1, lx1, lt2, ln2, lx2, lt3, ln3, lx3, lt4, ln4, lx4, lt5, ln5, lx5, lt6, ln6, lx6, lt7, ln7, lx7, lt8, ln8, lx8, lt9, ln9, lx9, lt10, ln10, lx10, lt11, ln11, lx11, lt12, ln12, lx12, lt13, ln13, lx13, lt14, ln14, lx14, lt15, ln15, lx15, lt16, ln16, lx16, lt17, ln17, lx17, lt18, ln18, lx18, lt19, ln19, lx19, lt20, ln20, lx20, lt21, ln21, lx21, lt22, ln22, lx22, lt23, ln23, lx23, lt24, ln24, lx24, la0, la1, la2, la3, la4, la5, la6, la7, la8, la9, la10, la11, la12, lb0, lb1, lb2, lb3, lb4, lb5, lb6, lb7, lb8, lb9, lb10, lb11, lb12, lt60, lt400, lt900, ltm1, ltm2, ltm4, ltm10000, lt10000, lt1000000, ltm1000000, lt10000000, lt2000, lt100000, Int.toNat_natCast, i1ne0, i0eq0, Int.reduceLT, Int.reduceLE, Int.reduceToNat, Int.reduceNeg, not_true, not_false_iff, false_imp_iff, true_imp_iff, imp_self, implies_true, Option.isSome_some, Bool.false_eq_true, q0, qi, xV, q1, q5, x5, x_clvp cq']
    have kn' : knd w ad := knd_frm kn fun j hj => ht.1 _ fun i _ => kA j _ hj
    refine s_tallyOn (σ := (w, s)) (hB _) kn' (iv_okI hi q.1).1 cq ?_
    have nn : nI k + 1 = nI (k + 1) := nI_1 _
    simp only [eX7_tallyPages_67, eX7_tallyPages_70, List.getElem?_cons_zero, List.getElem?_cons_succ, Option.some.injEq, Value.int.injEq, Value.long.injEq, Value.ref.injEq, reduceCtorEq, exists_eq_left', exists_eq_left, exists_and_left, exists_and_right, and_assoc, and_true, true_and, true_or, or_true, x_rfv_ref, x_rfv_null, Prod.mk.injEq, List.set_cons_zero, List.set_cons_succ, List.length_cons, List.length_nil, Value.category, x_nl0, x_nl1, x_nl2, x_nl3, x_nl4, x_nl5, x_nl6, x_nl7, x_nl8, x_nl9, x_nl10, x_nl11, x_nl12, List.map_nil, List.map_cons, List.sum_nil, List.sum_cons, Option.toList_some, Option.toList_none, List.nil_append, List.cons_append, xl_lt, xl_gt, xl_eq, ↓reduceIte, Nat.reduceLT, Nat.reduceAdd, Nat.reduceLeDiff, x_up_self, x_uu, lt0, ln0, lx0, lt1, ln1, lx1, lt2, ln2, lx2, lt3, ln3, lx3, lt4, ln4, lx4, lt5, ln5, lx5, lt6, ln6, lx6, lt7, ln7, lx7, lt8, ln8, lx8, lt9, ln9, lx9, lt10, ln10, lx10, lt11, ln11, lx11, lt12, ln12, lx12, lt13, ln13, lx13, lt14, ln14, lx14, lt15, ln15, lx15, lt16, ln16, lx16, lt17, ln17, lx17, lt18, ln18, lx18, lt19, ln19, lx19, lt20, ln20, lx20, lt21, ln21, lx21, lt22, ln22, lx22, lt23, ln23, lx23, lt24, ln24, lx24, la0, la1, la2, la3, la4, la5, la6, la7, la8, la9, la10, la11, la12, lb0, lb1, lb2, lb3, lb4, lb5, lb6, lb7, lb8, lb9, lb10, lb11, lb12, lt60, lt400, lt900, ltm1, ltm2, ltm4, ltm10000, lt10000, lt1000000, ltm1000000, lt10000000, lt2000, lt100000, Int.toNat_natCast, i1ne0, i0eq0, Int.reduceLT, Int.reduceLE, Int.reduceToNat, Int.reduceNeg, not_true, not_false_iff, false_imp_iff, true_imp_iff, imp_self, implies_true, Option.isSome_some, Bool.false_eq_true, nn]
    refine ih (k + 1) (by omega) _ s _ _ _ rfl (tal_up hA qn ht) ?_ h
    have e : (pg_at S.2.2.2.2.2.2 p).1.take (k + 1) = (pg_at S.2.2.2.2.2.2 p).1.take k ++ [q] := by
      rw [List.take_succ, eq]; rfl
    rw [e, ← List.append_assoc]
    exact tly_page hy qn
theorem tg_out {B : Nat} {ad A : Nat → Nat} {K : xK} {S : MS} {w0 : xM} (hi : iv S) (hA : ainj A) (hB : ∀ c, B ≤ A c) (hR : RC w0 ad A S) (kn : knd w0 ad) (kA : ∀ i j, i < 6 → ad i ≠ A j) (hlt : ∀ p, p < S.2.2.2.2.2.2.length → ∀ q, q ∈ (pg_at S.2.2.2.2.2.2 p).1 → q.1 < S.1.1) :
    ∀ d p, d + p = S.2.2.2.2.2.2.length → ∀ (w : xM) (s : Nat × Nat) (v2 v3 v4 : Value) (pl : Nat → Int32) (sd : Nat → Int64), v2.category = 1 → v3.category = 1 → v4.category = 1 → tal w0 w ad A S pl sd → tly S (pg_it (S.2.2.2.2.2.2.take p)) [] pl sd →
    (∀ w' pl' sd', tal w0 w' ad A S pl' sd' → tly S (pg_it S.2.2.2.2.2.2) [] pl' sd' → K none (w', s)) → wX7_tallyPages B ad K 2 [.ref (A 0), .int (nI p), v2, v3, v4] [] (w, s) := by
  have h60 := hi.2.2.2.2.2.2.1
  have hni := hi.1.1
  have hR' := hR
  obtain ⟨g0, -, -, ⟨P5, p5a, p5b⟩, -⟩ := hR'
  unfold pbc at g0
  have tl : (nI S.2.2.2.2.2.2.length).toInt = (S.2.2.2.2.2.2.length : Int) := nI_toInt (by omega)
  intro d
  induction d with
  | zero =>
    intro p hp w s v2 v3 v4 pl sd c2 c3 c4 ht hy h
    have q0 := (tal_at (c := 0) hA ht (by omega)).trans g0
    have t1 : (nI p).toInt = (p : Int) := nI_toInt (by omega)
    rw [eX7_tallyPages_2]
    simp only [eX7_tallyPages_3, eX7_tallyPages_4, eX7_tallyPages_7, List.getElem?_cons_zero, List.getElem?_cons_succ, Option.some.injEq, Value.int.injEq, Value.long.injEq, Value.ref.injEq, reduceCtorEq, exists_eq_left', exists_eq_left, exists_and_left, exists_and_right, and_assoc, and_true, true_and, true_or, or_true, x_rfv_ref, x_rfv_null, Prod.mk.injEq, List.set_cons_zero, List.set_cons_succ, List.length_cons, List.length_nil, Value.category, x_nl0, x_nl1, x_nl2, x_nl3, x_nl4, x_nl5, x_nl6, x_nl7, x_nl8, x_nl9, x_nl10, x_nl11, x_nl12, List.map_nil, List.map_cons, List.sum_nil, List.sum_cons, Option.toList_some, Option.toList_none, List.nil_append, List.cons_append, xl_lt, xl_gt, xl_eq, ↓reduceIte, Nat.reduceLT, Nat.reduceAdd, Nat.reduceLeDiff, x_up_self, x_uu, lt0, ln0, lx0, lt1, ln1, lx1, lt2, ln2, lx2, lt3, ln3, lx3, lt4, ln4, lx4, lt5, ln5, lx5, lt6, ln6, lx6, lt7, ln7, lx7, lt8, ln8, lx8, lt9, ln9, lx9, lt10, ln10, lx10, lt11, ln11, lx11, lt12, ln12, lx12, lt13, ln13, lx13, lt14, ln14, lx14, lt15, ln15, lx15, lt16, ln16, lx16, lt17, ln17, lx17, lt18, ln18, lx18, lt19, ln19, lx19, lt20, ln20, lx20, lt21, ln21, lx21, lt22, ln22, lx22, lt23, ln23, lx23, lt24, ln24, lx24, la0, la1, la2, la3, la4, la5, la6, la7, la8, la9, la10, la11, la12, lb0, lb1, lb2, lb3, lb4, lb5, lb6, lb7, lb8, lb9, lb10, lb11, lb12, lt60, lt400, lt900, ltm1, ltm2, ltm4, ltm10000, lt10000, lt1000000, ltm1000000, lt10000000, lt2000, lt100000, Int.toNat_natCast, i1ne0, i0eq0, Int.reduceLT, Int.reduceLE, Int.reduceToNat, Int.reduceNeg, not_true, not_false_iff, false_imp_iff, true_imp_iff, imp_self, implies_true, Option.isSome_some, Bool.false_eq_true, q0, tl, t1]
    rw [if_neg (by omega)]
    simp only [eX7_tallyPages_79, List.getElem?_cons_zero, List.getElem?_cons_succ, Option.some.injEq, Value.int.injEq, Value.long.injEq, Value.ref.injEq, reduceCtorEq, exists_eq_left', exists_eq_left, exists_and_left, exists_and_right, and_assoc, and_true, true_and, true_or, or_true, x_rfv_ref, x_rfv_null, Prod.mk.injEq, List.set_cons_zero, List.set_cons_succ, List.length_cons, List.length_nil, Value.category, x_nl0, x_nl1, x_nl2, x_nl3, x_nl4, x_nl5, x_nl6, x_nl7, x_nl8, x_nl9, x_nl10, x_nl11, x_nl12, List.map_nil, List.map_cons, List.sum_nil, List.sum_cons, Option.toList_some, Option.toList_none, List.nil_append, List.cons_append, xl_lt, xl_gt, xl_eq, ↓reduceIte, Nat.reduceLT, Nat.reduceAdd, Nat.reduceLeDiff, x_up_self, x_uu, lt0, ln0, lx0, lt1, ln1, lx1, lt2, ln2, lx2, lt3, ln3, lx3, lt4, ln4, lx4, lt5, ln5, lx5, lt6, ln6, lx6, lt7, ln7, lx7, lt8, ln8, lx8, lt9, ln9, lx9, lt10, ln10, lx10, lt11, ln11, lx11, lt12, ln12, lx12, lt13, ln13, lx13, lt14, ln14, lx14, lt15, ln15, lx15, lt16, ln16, lx16, lt17, ln17, lx17, lt18, ln18, lx18, lt19, ln19, lx19, lt20, ln20, lx20, lt21, ln21, lx21, lt22, ln22, lx22, lt23, ln23, lx23, lt24, ln24, lx24, la0, la1, la2, la3, la4, la5, la6, la7, la8, la9, la10, la11, la12, lb0, lb1, lb2, lb3, lb4, lb5, lb6, lb7, lb8, lb9, lb10, lb11, lb12, lt60, lt400, lt900, ltm1, ltm2, ltm4, ltm10000, lt10000, lt1000000, ltm1000000, lt10000000, lt2000, lt100000, Int.toNat_natCast, i1ne0, i0eq0, Int.reduceLT, Int.reduceLE, Int.reduceToNat, Int.reduceNeg, not_true, not_false_iff, false_imp_iff, true_imp_iff, imp_self, implies_true, Option.isSome_some, Bool.false_eq_true]
    rw [List.take_of_length_le (by omega)] at hy
    exact h w pl sd ht hy
  | succ d ih =>
    intro p hp w s v2 v3 v4 pl sd c2 c3 c4 ht hy h
    have q0 := (tal_at (c := 0) hA ht (by omega)).trans g0
    have q3 := (tal_at (c := 3) hA ht (by omega)).trans p5a
    have t1 : (nI p).toInt = (p : Int) := nI_toInt (by omega)
    have hpl : p < S.2.2.2.2.2.2.length := by omega
    have xV : x_ix (nI p) P5 = some (.ref (A (1000 + 6 * p))) := by
      rw [x_ix_nI (by omega)]; exact p5b.2 p hpl
    rw [eX7_tallyPages_2]
    simp only [eX7_tallyPages_3, eX7_tallyPages_4, eX7_tallyPages_7, List.getElem?_cons_zero, List.getElem?_cons_succ, Option.some.injEq, Value.int.injEq, Value.long.injEq, Value.ref.injEq, reduceCtorEq, exists_eq_left', exists_eq_left, exists_and_left, exists_and_right, and_assoc, and_true, true_and, true_or, or_true, x_rfv_ref, x_rfv_null, Prod.mk.injEq, List.set_cons_zero, List.set_cons_succ, List.length_cons, List.length_nil, Value.category, x_nl0, x_nl1, x_nl2, x_nl3, x_nl4, x_nl5, x_nl6, x_nl7, x_nl8, x_nl9, x_nl10, x_nl11, x_nl12, List.map_nil, List.map_cons, List.sum_nil, List.sum_cons, Option.toList_some, Option.toList_none, List.nil_append, List.cons_append, xl_lt, xl_gt, xl_eq, ↓reduceIte, Nat.reduceLT, Nat.reduceAdd, Nat.reduceLeDiff, x_up_self, x_uu, lt0, ln0, lx0, lt1, ln1, lx1, lt2, ln2, lx2, lt3, ln3, lx3, lt4, ln4, lx4, lt5, ln5, lx5, lt6, ln6, lx6, lt7, ln7, lx7, lt8, ln8, lx8, lt9, ln9, lx9, lt10, ln10, lx10, lt11, ln11, lx11, lt12, ln12, lx12, lt13, ln13, lx13, lt14, ln14, lx14, lt15, ln15, lx15, lt16, ln16, lx16, lt17, ln17, lx17, lt18, ln18, lx18, lt19, ln19, lx19, lt20, ln20, lx20, lt21, ln21, lx21, lt22, ln22, lx22, lt23, ln23, lx23, lt24, ln24, lx24, la0, la1, la2, la3, la4, la5, la6, la7, la8, la9, la10, la11, la12, lb0, lb1, lb2, lb3, lb4, lb5, lb6, lb7, lb8, lb9, lb10, lb11, lb12, lt60, lt400, lt900, ltm1, ltm2, ltm4, ltm10000, lt10000, lt1000000, ltm1000000, lt10000000, lt2000, lt100000, Int.toNat_natCast, i1ne0, i0eq0, Int.reduceLT, Int.reduceLE, Int.reduceToNat, Int.reduceNeg, not_true, not_false_iff, false_imp_iff, true_imp_iff, imp_self, implies_true, Option.isSome_some, Bool.false_eq_true, q0, tl, t1]
    rw [if_pos (by omega)]
    simp only [eX7_tallyPages_10, eX7_tallyPages_11, eX7_tallyPages_14, eX7_tallyPages_15, eX7_tallyPages_16, eX7_tallyPages_17, eX7_tallyPages_18, List.getElem?_cons_zero, List.getElem?_cons_succ, Option.some.injEq, Value.int.injEq, Value.long.injEq, Value.ref.injEq, reduceCtorEq, exists_eq_left', exists_eq_left, exists_and_left, exists_and_right, and_assoc, and_true, true_and, true_or, or_true, x_rfv_ref, x_rfv_null, Prod.mk.injEq, List.set_cons_zero, List.set_cons_succ, List.length_cons, List.length_nil, Value.category, x_nl0, x_nl1, x_nl2, x_nl3, x_nl4, x_nl5, x_nl6, x_nl7, x_nl8, x_nl9, x_nl10, x_nl11, x_nl12, List.map_nil, List.map_cons, List.sum_nil, List.sum_cons, Option.toList_some, Option.toList_none, List.nil_append, List.cons_append, xl_lt, xl_gt, xl_eq, ↓reduceIte, Nat.reduceLT, Nat.reduceAdd, Nat.reduceLeDiff, x_up_self, x_uu, lt0, ln0, lx0, lt1, ln1, lx1, lt2, ln2, lx2, lt3, ln3, lx3, lt4, ln4, lx4, lt5, ln5, lx5, lt6, ln6, lx6, lt7, ln7, lx7, lt8, ln8, lx8, lt9, ln9, lx9, lt10, ln10, lx10, lt11, ln11, lx11, lt12, ln12, lx12, lt13, ln13, lx13, lt14, ln14, lx14, lt15, ln15, lx15, lt16, ln16, lx16, lt17, ln17, lx17, lt18, ln18, lx18, lt19, ln19, lx19, lt20, ln20, lx20, lt21, ln21, lx21, lt22, ln22, lx22, lt23, ln23, lx23, lt24, ln24, lx24, la0, la1, la2, la3, la4, la5, la6, la7, la8, la9, la10, la11, la12, lb0, lb1, lb2, lb3, lb4, lb5, lb6, lb7, lb8, lb9, lb10, lb11, lb12, lt60, lt400, lt900, ltm1, ltm2, ltm4, ltm10000, lt10000, lt1000000, ltm1000000, lt10000000, lt2000, lt100000, Int.toNat_natCast, i1ne0, i0eq0, Int.reduceLT, Int.reduceLE, Int.reduceToNat, Int.reduceNeg, not_true, not_false_iff, false_imp_iff, true_imp_iff, imp_self, implies_true, Option.isSome_some, Bool.false_eq_true, q0, q3, xV, c2, c3, c4]
    refine tg_in (D := pg_it (S.2.2.2.2.2.2.take p)) hi hA hB hR kn kA hpl (hlt p hpl) (pg_at S.2.2.2.2.2.2 p).1.length 0 (by omega) w s v4 pl sd c4 ht ?_ fun w' k' v4' pl' sd' c4' ht' hy' => ?_
    · rw [List.take_zero, List.append_nil]; exact hy
    · have nn : nI p + 1 = nI (p + 1) := nI_1 _
      simp only [eX7_tallyPages_73, eX7_tallyPages_76, List.getElem?_cons_zero, List.getElem?_cons_succ, Option.some.injEq, Value.int.injEq, Value.long.injEq, Value.ref.injEq, reduceCtorEq, exists_eq_left', exists_eq_left, exists_and_left, exists_and_right, and_assoc, and_true, true_and, true_or, or_true, x_rfv_ref, x_rfv_null, Prod.mk.injEq, List.set_cons_zero, List.set_cons_succ, List.length_cons, List.length_nil, Value.category, x_nl0, x_nl1, x_nl2, x_nl3, x_nl4, x_nl5, x_nl6, x_nl7, x_nl8, x_nl9, x_nl10, x_nl11, x_nl12, List.map_nil, List.map_cons, List.sum_nil, List.sum_cons, Option.toList_some, Option.toList_none, List.nil_append, List.cons_append, xl_lt, xl_gt, xl_eq, ↓reduceIte, Nat.reduceLT, Nat.reduceAdd, Nat.reduceLeDiff, x_up_self, x_uu, lt0, ln0, lx0, lt1, ln1, lx1, lt2, ln2, lx2, lt3, ln3, lx3, lt4, ln4, lx4, lt5, ln5, lx5, lt6, ln6, lx6, lt7, ln7, lx7, lt8, ln8, lx8, lt9, ln9, lx9, lt10, ln10, lx10, lt11, ln11, lx11, lt12, ln12, lx12, lt13, ln13, lx13, lt14, ln14, lx14, lt15, ln15, lx15, lt16, ln16, lx16, lt17, ln17, lx17, lt18, ln18, lx18, lt19, ln19, lx19, lt20, ln20, lx20, lt21, ln21, lx21, lt22, ln22, lx22, lt23, ln23, lx23, lt24, ln24, lx24, la0, la1, la2, la3, la4, la5, la6, la7, la8, la9, la10, la11, la12, lb0, lb1, lb2, lb3, lb4, lb5, lb6, lb7, lb8, lb9, lb10, lb11, lb12, lt60, lt400, lt900, ltm1, ltm2, ltm4, ltm10000, lt10000, lt1000000, ltm1000000, lt10000000, lt2000, lt100000, Int.toNat_natCast, i1ne0, i0eq0, Int.reduceLT, Int.reduceLE, Int.reduceToNat, Int.reduceNeg, not_true, not_false_iff, false_imp_iff, true_imp_iff, imp_self, implies_true, Option.isSome_some, Bool.false_eq_true, nn]
      refine ih (p + 1) (by omega) w' s _ _ _ pl' sd' rfl rfl c4' ht' ?_ h
      have e : pg_it (S.2.2.2.2.2.2.take (p + 1)) = pg_it (S.2.2.2.2.2.2.take p) ++ (pg_at S.2.2.2.2.2.2 p).1 := by
        rw [List.take_succ, List.getElem?_eq_getElem hpl]
        show pg_it (_ ++ [S.2.2.2.2.2.2[p]]) = _
        rw [pit_ap]
        congr 1
        unfold pg_at
        rw [List.getD_eq_getElem?_getD, List.getElem?_eq_getElem hpl]; rfl
      rw [e]; exact hy'
theorem iv_pg {S : MS} (hi : iv S) (p : Nat) (hp : p < S.2.2.2.2.2.2.length) (q : Nat × Int32) (hq : q ∈ (pg_at S.2.2.2.2.2.2 p).1) : q.1 < S.1.1 := by
  have h1 := hi.2.2.2.1.1
  refine Classical.byContradiction fun z => ?_
  have h2 := (h1 q.1 (by omega)).2.1
  unfold p_cnt at h2
  have hm : q.1 ∈ (pg_it S.2.2.2.2.2.2).map (fun q => q.1) := by
    refine List.mem_map.mpr ⟨q, ?_, rfl⟩
    unfold pg_it
    refine List.mem_flatMap.mpr ⟨pg_at S.2.2.2.2.2.2 p, ?_, hq⟩
    unfold pg_at
    rw [List.getD_eq_getElem?_getD, List.getElem?_eq_getElem hp]
    exact List.getElem_mem hp
  have := List.count_pos_iff.mpr hm
  omega
theorem s_tallyPages {B : Nat} {ad A : Nat → Nat} {K : xK} {S : MS} {w0 w : xM} {s : Nat × Nat} {pl : Nat → Int32} {sd : Nat → Int64} (hi : iv S) (hA : ainj A) (hB : ∀ c, B ≤ A c) (hR : RC w0 ad A S) (kn : knd w0 ad) (kA : ∀ i j, i < 6 → ad i ≠ A j) (ht : tal w0 w ad A S pl sd) (hy : tly S [] [] pl sd) (h : ∀ w' pl' sd', tal w0 w' ad A S pl' sd' → tly S (pg_it S.2.2.2.2.2.2) [] pl' sd' → K none (w', s)) : x_cl (eX7_tallyPages B ad) [.ref (A 0)] (w, s) K := by
  refine x_ev_of (by simp [x_sl, Value.category]) ?_
  show wX7_tallyPages B ad K 0 [.ref (A 0), .retAddr 0, .retAddr 0, .retAddr 0, .retAddr 0] [] (w, s)
  simp only [eX7_tallyPages_0, eX7_tallyPages_1, List.getElem?_cons_zero, List.getElem?_cons_succ, Option.some.injEq, Value.int.injEq, Value.long.injEq, Value.ref.injEq, reduceCtorEq, exists_eq_left', exists_eq_left, exists_and_left, exists_and_right, and_assoc, and_true, true_and, true_or, or_true, x_rfv_ref, x_rfv_null, Prod.mk.injEq, List.set_cons_zero, List.set_cons_succ, List.length_cons, List.length_nil, Value.category, x_nl0, x_nl1, x_nl2, x_nl3, x_nl4, x_nl5, x_nl6, x_nl7, x_nl8, x_nl9, x_nl10, x_nl11, x_nl12, List.map_nil, List.map_cons, List.sum_nil, List.sum_cons, Option.toList_some, Option.toList_none, List.nil_append, List.cons_append, xl_lt, xl_gt, xl_eq, ↓reduceIte, Nat.reduceLT, Nat.reduceAdd, Nat.reduceLeDiff, x_up_self, x_uu, lt0, ln0, lx0, lt1, ln1, lx1, lt2, ln2, lx2, lt3, ln3, lx3, lt4, ln4, lx4, lt5, ln5, lx5, lt6, ln6, lx6, lt7, ln7, lx7, lt8, ln8, lx8, lt9, ln9, lx9, lt10, ln10, lx10, lt11, ln11, lx11, lt12, ln12, lx12, lt13, ln13, lx13, lt14, ln14, lx14, lt15, ln15, lx15, lt16, ln16, lx16, lt17, ln17, lx17, lt18, ln18, lx18, lt19, ln19, lx19, lt20, ln20, lx20, lt21, ln21, lx21, lt22, ln22, lx22, lt23, ln23, lx23, lt24, ln24, lx24, la0, la1, la2, la3, la4, la5, la6, la7, la8, la9, la10, la11, la12, lb0, lb1, lb2, lb3, lb4, lb5, lb6, lb7, lb8, lb9, lb10, lb11, lb12, lt60, lt400, lt900, ltm1, ltm2, ltm4, ltm10000, lt10000, lt1000000, ltm1000000, lt10000000, lt2000, lt100000, Int.toNat_natCast, i1ne0, i0eq0, Int.reduceLT, Int.reduceLE, Int.reduceToNat, Int.reduceNeg, not_true, not_false_iff, false_imp_iff, true_imp_iff, imp_self, implies_true, Option.isSome_some, Bool.false_eq_true]
  exact tg_out hi hA hB hR kn kA (iv_pg hi) _ 0 (Nat.add_zero _) w s _ _ _ pl sd rfl rfl rfl ht (by rw [List.take_zero]; exact hy) h
