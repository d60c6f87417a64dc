/-! the numbers stay in range; the class computes the same -/
theorem nm_tot {n : Nat} {cs : Nat → Int32 × Int32 × Int32 × Int32} {st st' : Nat → Int64} {ins : Int64} (hs : nmok n cs st ins) (h0 : (st 0).toInt - 20000000 ≤ (st' 0).toInt ∧ (st' 0).toInt ≤ (st 0).toInt + 20000000) (h2 : 0 ≤ (st' 2).toInt ∧ (st' 2).toInt ≤ 1000000) (h1 : st' 1 = st 1) (h3 : ∀ k, k < 4 → (st (3 + k)).toInt ≤ (st' (3 + k)).toInt ∧ (st' (3 + k)).toInt ≤ (st (3 + k)).toInt + 1000000) (h7 : (st 7).toInt ≤ (st' 7).toInt ∧ (st' 7).toInt ≤ (st 7).toInt + 1000000) (h8 : ∀ c, c < 4 → st' (8 + c) = st (8 + c)) : nmok (n + 1) cs st' ins := by
  obtain ⟨g0, g2, g1, g3, g7, g8, gi⟩ := hs
  refine ⟨by omega, h2, by rw [h1]; omega, fun k hk => ?_, by omega, fun c hc => by rw [h8 c hc]; exact g8 c hc, by omega⟩
  have := g3 k hk
  have := h3 k hk
  omega
theorem nm_keep {n : Nat} {cs : Nat → Int32 × Int32 × Int32 × Int32} {st : Nat → Int64} {ins : Int64} (hs : nmok n cs st ins) : nmok (n + 1) cs st ins := by
  obtain ⟨g0, g2, g1, g3, g7, g8, gi⟩ := hs
  refine nm_tot ⟨g0, g2, g1, g3, g7, g8, gi⟩ ⟨by omega, by omega⟩ g2 rfl (fun k hk => ⟨by omega, by omega⟩) ⟨by omega, by omega⟩ fun _ _ => rfl
/-- the class's grow -/
theorem gr_st {n : Nat} {cs : Nat → Int32 × Int32 × Int32 × Int32} {st : Nat → Int64} {ins : Int64} {x y z : Int64} (hn : n ≤ 401) (hs : nmok n cs st ins) (hx : -1000000 ≤ x.toInt ∧ x.toInt ≤ 1000000) (hy : 0 ≤ y.toInt ∧ y.toInt ≤ 1000000) (hz : 0 ≤ z.toInt) :
    ((st 0).toInt - 1000000 ≤ (c_grow st x y z 0).toInt ∧ (c_grow st x y z 0).toInt ≤ (st 0).toInt + 3000000) ∧ (0 ≤ (c_grow st x y z 2).toInt ∧ (c_grow st x y z 2).toInt ≤ 1000000) ∧ ∀ j, j ≠ 0 → j ≠ 2 → c_grow st x y z j = st j := by
  obtain ⟨g0, g2, -⟩ := hs
  have e1 : (st 2 + x).toInt = (st 2).toInt + x.toInt := i64_add (by omega)
  have e2 : (st 0 + (st 2 + x)).toInt = (st 0).toInt + ((st 2).toInt + x.toInt) := by rw [i64_add (by rw [e1]; omega), e1]
  refine ⟨?_, ?_, fun j j0 j2 => ?_⟩
  · unfold c_grow
    rw [ups_ne (by decide), ups_eq]
    split
    · have e3 : (y - z).toInt = y.toInt - z.toInt := i64_sub (by omega)
      rw [i64_add (by rw [e2, e3]; omega), e2, e3]; omega
    · rw [i64_add (by rw [e2, c0]; omega), e2, c0]; omega
  · unfold c_grow
    rw [ups_eq]
    split <;> omega
  · unfold c_grow
    rw [ups_ne j2, ups_ne j0]
theorem b0_st {st : Nat → Int64} {n : Nat} {cs : Nat → Int32 × Int32 × Int32 × Int32} {ins tp : Int64} {b : Bool} {v : Int32} (hn : n ≤ 400) (hs : nmok n cs st ins) (ht : 0 ≤ tp.toInt ∧ tp.toInt ≤ 10000000) (hv : 0 ≤ v.toInt ∧ v.toInt ≤ 1000000) : ((st 0).toInt ≤ (c_box0 st b tp v 0).toInt ∧ (c_box0 st b tp v 0).toInt ≤ (st 0).toInt + 10000000) ∧ ∀ j, j ≠ 0 → c_box0 st b tp v j = st j := by
  obtain ⟨g0, g2, -⟩ := hs
  unfold c_box0
  split
  · rename_i q
    rw [i32_64] at q
    have e : (tp - v.toInt64).toInt = tp.toInt - v.toInt := by rw [i64_sub (by rw [i32_64]; omega), i32_64]
    refine ⟨?_, fun j hj => ups_ne hj⟩
    rw [ups_eq, i64_add (by rw [e]; omega), e]
    omega
  · exact ⟨by omega, fun _ _ => rfl⟩
/-- boxes, glue, kerns -/
theorem ks_nm {n : Nat} {cs : Nat → Int32 × Int32 × Int32 × Int32} {st : Nat → Int64} {ins : Int64} {nc : Nat} {t : It} {b : Bool} {tp gd : Int32} (hn : n ≤ 400) (hs : nmok n cs st ins) (ht : itok nc t) (hg : 0 ≤ gd.toInt ∧ gd.toInt ≤ 10000000) (hp : 0 ≤ tp.toInt ∧ tp.toInt ≤ 10000000) : nmok (n + 1) cs (c_kst st b tp.toInt64 gd.toInt64 t) ins := by
  obtain ⟨t6, t0, t1, t2, -⟩ := ht
  have hs' := hs
  obtain ⟨g0, g2, g1, g3, g7, g8, gi⟩ := hs'
  have z0 : 0 ≤ gd.toInt64.toInt := by rw [i32_64]; omega
  have y0 : 0 ≤ (0 : Int64).toInt ∧ (0 : Int64).toInt ≤ 1000000 := by decide
  unfold c_kst
  split
  · rename_i q
    have r := t0 q
    have ev : it_val t = t.2.1 := by unfold it_val; rw [if_neg (by omega)]
    have ed : it_dep t = t.2.2.1 := by unfold it_dep; rw [if_pos q]
    rw [ev, ed]
    have b0 := b0_st (b := b) hn hs (tp := tp.toInt64) (by rw [i32_64]; omega) (v := t.2.1) ⟨r.1, r.2.1⟩
    have hs2 : nmok (n + 1) cs (c_box0 st b tp.toInt64 t.2.1) ins := by
      refine nm_tot hs ⟨by omega, by omega⟩ (by rw [b0.2 2 (by decide)]; exact g2) (b0.2 1 (by decide)) (fun k hk => ?_) (by rw [b0.2 7 (by decide)]; omega) fun c hc => b0.2 _ (by omega)
      rw [b0.2 _ (by omega)]; omega
    have gr := gr_st (x := t.2.1.toInt64) (y := t.2.2.1.toInt64) (z := gd.toInt64) (by omega) hs2 (by rw [i32_64]; omega) (by rw [i32_64]; omega) z0
    refine nm_tot hs ⟨by omega, by omega⟩ gr.2.1 ?_ (fun k hk => ?_) ?_ fun c hc => ?_
    · rw [gr.2.2 1 (by decide) (by decide), b0.2 1 (by decide)]
    · rw [gr.2.2 _ (by omega) (by omega), b0.2 _ (by omega)]; omega
    · rw [gr.2.2 7 (by decide) (by decide), b0.2 7 (by decide)]; omega
    · rw [gr.2.2 _ (by omega) (by omega), b0.2 _ (by omega)]
  · split
    · rename_i q0 q
      obtain ⟨r1, r2, r3, r4, ⟨o, o4, ho⟩, r6, r7⟩ := t1 q
      have ev : it_val t = t.2.1 := by unfold it_val; rw [if_neg (by omega)]
      have es : it_str t = t.2.2.1 := by unfold it_str; rw [if_pos q]
      have eo : it_ord t = nI o := by unfold it_ord; rw [if_pos q, ho]
      have eh : it_shr t = t.2.2.2.2 := by unfold it_shr; rw [if_pos q]
      have gr := gr_st (x := t.2.1.toInt64) (y := 0) (z := gd.toInt64) (by omega) hs (by rw [i32_64]; omega) y0 z0
      unfold c_glue
      rw [ev, es, eo, eh, nI_nat (by omega)]
      have e3 : (c_grow st t.2.1.toInt64 0 gd.toInt64 (3 + o) + t.2.2.1.toInt64).toInt = (st (3 + o)).toInt + t.2.2.1.toInt := by
        have := g3 o o4
        rw [gr.2.2 _ (by omega) (by omega), i64_add (by rw [i32_64]; omega), i32_64]
      have e7 : (c_grow st t.2.1.toInt64 0 gd.toInt64 7 + t.2.2.2.2.toInt64).toInt = (st 7).toInt + t.2.2.2.2.toInt := by
        rw [gr.2.2 _ (by omega) (by omega), i64_add (by rw [i32_64]; omega), i32_64]
      refine nm_tot hs ?_ ?_ ?_ (fun k hk => ?_) ?_ fun c hc => ?_
      · rw [ups_ne (by decide), ups_ne (by omega)]; omega
      · rw [ups_ne (by decide), ups_ne (by omega)]; exact gr.2.1
      · rw [ups_ne (by decide), ups_ne (by omega), gr.2.2 1 (by decide) (by decide)]
      · rw [ups_ne (by omega)]
        by_cases hko : k = o
        · subst hko; rw [ups_eq, e3]; omega
        · rw [ups_ne (by omega), gr.2.2 _ (by omega) (by omega)]; omega
      · rw [ups_eq, e7]; omega
      · rw [ups_ne (by omega), ups_ne (by omega), gr.2.2 _ (by omega) (by omega)]
    · split
      · rename_i q0 q1 q
        have r := t2 q
        have ev : it_val t = t.2.1 := by unfold it_val; rw [if_neg (by omega)]
        have gr := gr_st (x := t.2.1.toInt64) (y := 0) (z := gd.toInt64) (by omega) hs (by rw [i32_64]; omega) y0 z0
        rw [ev]
        refine nm_tot hs ⟨by omega, by omega⟩ gr.2.1 (gr.2.2 1 (by decide) (by decide)) (fun k hk => ?_) ?_ fun c hc => gr.2.2 _ (by omega) (by omega)
        · rw [gr.2.2 _ (by omega) (by omega)]; omega
        · rw [gr.2.2 7 (by decide) (by decide)]; omega
      · exact nm_keep hs
/-- the class's numbers are the model's -/
theorem gr_lim {st : Nat → Int64} {x y : Int64} {z : Int32} : c_grow st x y z.toInt64 = m_lim z (ups (ups st 0 (st 0 + (st 2 + x))) 2 y) := by
  funext j
  unfold c_grow m_lim
  rw [ups_eq]
  by_cases q : z.toInt64.toInt < y.toInt
  · rw [if_pos q, if_pos q, if_pos q]
    by_cases h2 : j = 2
    · subst h2; rw [ups_eq, ups_eq]
    · rw [ups_ne h2, ups_ne h2]
      by_cases h0 : j = 0
      · subst h0; rw [ups_eq, ups_eq, ups_ne (by decide), ups_eq]
      · rw [ups_ne h0, ups_ne h0, ups_ne h2, ups_ne h0]
  · rw [if_neg q, if_neg q, if_neg q]
    by_cases h2 : j = 2
    · subst h2; rw [ups_eq, ups_eq]
    · rw [ups_ne h2, ups_ne h2]
      by_cases h0 : j = 0
      · subst h0; rw [ups_eq, ups_eq]; exact k64 _ (by rw [Int64.add_zero])
      · rw [ups_ne h0, ups_ne h0]
theorem cb_eq {st : Nat → Int64} {nc : Nat} {t : It} {b : Bool} {tp gd : Int32} (ht : itok nc t) (q : t.1 = 0) (hp : 0 ≤ tp.toInt ∧ tp.toInt ≤ 10000000) : c_kst st b tp.toInt64 gd.toInt64 t = m_lim gd (m_box b tp st t) := by
  have r := ht.2.1 q
  have ev : it_val t = t.2.1 := by unfold it_val; rw [if_neg (by omega)]
  have ed : it_dep t = t.2.2.1 := by unfold it_dep; rw [if_pos q]
  unfold c_kst
  rw [if_pos q, ev, ed, gr_lim]
  congr 1
  unfold m_box c_box0
  by_cases hc : b = false ∧ t.2.1.toInt < tp.toInt
  · rw [if_pos (by rw [i32_64, i32_64]; exact hc), if_pos hc, ups_eq, ups_ne (show 2 ≠ 0 by decide)]
    have e : tp.toInt64 - t.2.1.toInt64 = (tp - t.2.1).toInt64 := k64 _ (by rw [i64_sub (by rw [i32_64, i32_64]; omega), i32_64, i32_64, i32_64, i32_sub (by omega)])
    rw [e]
    funext j
    by_cases h2 : j = 2
    · subst h2; rw [ups_eq, ups_eq]
    · rw [ups_ne h2, ups_ne h2]
      by_cases h0 : j = 0
      · subst h0; rw [ups_eq, ups_eq]
      · rw [ups_ne h0, ups_ne h0, ups_ne h0]
  · rw [if_neg (by rw [i32_64, i32_64]; exact hc), if_neg hc, Int64.add_zero]
theorem cg_eq {st : Nat → Int64} {nc : Nat} {t : It} {b : Bool} {tp gd : Int32} (ht : itok nc t) (q : t.1 = 1) (hg : 0 ≤ gd.toInt) : c_kst st b tp.toInt64 gd.toInt64 t = m_lim gd (m_glue st t) := by
  obtain ⟨r1, r2, r3, r4, ⟨o, o4, ho⟩, r6, r7⟩ := ht.2.2.1 q
  have ev : it_val t = t.2.1 := by unfold it_val; rw [if_neg (by omega)]
  have es : it_str t = t.2.2.1 := by unfold it_str; rw [if_pos q]
  have eo : it_ord t = nI o := by unfold it_ord; rw [if_pos q, ho]
  have eh : it_shr t = t.2.2.2.2 := by unfold it_shr; rw [if_pos q]
  unfold c_kst
  rw [if_neg (by omega), if_pos q]
  unfold c_glue m_glue
  rw [ev, es, eo, eh, ho, nI_nat (by omega)]
  have ng : ¬ gd.toInt64.toInt < (0 : Int64).toInt := by rw [i32_64, c0]; omega
  have e : c_grow st t.2.1.toInt64 0 gd.toInt64 = ups (ups st 0 (st 0 + (st 2 + t.2.1.toInt64))) 2 0 := by
    rw [gr_lim]; unfold m_lim; rw [ups_eq, if_neg ng]
  rw [e]
  unfold m_lim
  rw [if_neg (by rw [ups_ne (by decide), ups_ne (by omega), ups_eq]; exact ng)]
  rw [ups_ne (show 3 + o ≠ 2 by omega), ups_ne (show 3 + o ≠ 0 by omega), ups_ne (show 7 ≠ 2 by decide), ups_ne (show 7 ≠ 0 by decide)]
theorem ck_eq {st : Nat → Int64} {t : It} {b : Bool} {tp gd : Int32} (q : t.1 = 2) : c_kst st b tp.toInt64 gd.toInt64 t = m_lim gd (m_kern st t) := by
  have ev : it_val t = t.2.1 := by unfold it_val; rw [if_neg (by omega)]
  unfold c_kst
  rw [if_neg (by omega), if_neg (by omega), if_pos q, ev, gr_lim]
  rfl
