/-! inserts: the class's part is the model's -/
theorem c_min_eq (a b : Int64) : c_min a b = lessL a b := by
  unfold c_min lessL
  by_cases h : b < a
  · rw [if_pos h, if_neg (by have := Int64.lt_iff_toInt_lt.mp h; omega)]
  · rw [if_neg h]
    have h' : ¬ b.toInt < a.toInt := fun q => h (Int64.lt_iff_toInt_lt.mpr q)
    split
    · rfl
    · exact k64 _ (by omega)
theorem op_eq {st : Nat → Int64} {o : Nat → Bool} {k : Nat} {sk : Int32} : c_op st o k sk = ups st 1 (i_g st (o k) sk) := by
  unfold c_op i_g
  cases o k with
  | true =>
    funext j
    simp only [↓reduceIte]
    by_cases h : j = 1
    · subst h; rw [ups_eq, Int64.sub_zero]
    · rw [ups_ne h]
  | false => simp
theorem i_g_rng {n : Nat} {cs : Nat → Int32 × Int32 × Int32 × Int32} {st : Nat → Int64} {ins : Int64} {m : Bool} {sk : Int32} (hn : n ≤ 400) (hs : nmok n cs st ins) (hk : 0 ≤ sk.toInt ∧ sk.toInt ≤ 10000) : (st 1).toInt - 10000 ≤ (i_g st m sk).toInt ∧ (i_g st m sk).toInt ≤ (st 1).toInt := by
  obtain ⟨-, -, g1, -⟩ := hs
  unfold i_g
  cases m with
  | true => simp only [↓reduceIte]; rw [i64_sub (by rw [c0]; omega), c0]; omega
  | false => simp only [Bool.false_eq_true, ↓reduceIte]; rw [i64_sub (by rw [i32_64]; omega), i32_64]; omega
theorem i_pt_rng {n : Nat} {S : MS} {c : Nat} {h : Int32} {cu : Bool} (hn : n ≤ 400) (hs : nmok n S.2.1.2 S.2.2.2.2.1.2.2.1 S.2.2.2.2.1.2.2.2.2.2.1) (hc : c < 4) (hk : ckok (S.2.1.2 c)) (h1 : 1 ≤ h.toInt) (h2 : h.toInt ≤ 1000000) :
    0 ≤ (i_pt S c h cu).toInt ∧ (i_pt S c h cu).toInt ≤ h.toInt ∧ (S.2.2.2.2.1.2.2.1 (8 + c)).toInt + (i_pt S c h cu).toInt ≤ (S.2.1.2 c).1.toInt ∧ (i_sd S c h = true ↔ ¬ (i_pt S c h cu).toInt < h.toInt) := by
  unfold i_pt i_sd
  cases S.2.2.2.2.1.2.2.2.2.2.2.2 c with
  | true =>
    obtain ⟨-, -, -, -, -, h8, -⟩ := hs
    have := h8 c hc
    simp only [↓reduceIte, c0]
    exact ⟨by omega, by omega, by omega, by simp; omega⟩
  | false =>
    simp only [Bool.false_eq_true, ↓reduceIte]
    obtain ⟨r1, r2, r3, r4, r5⟩ := ip_rng (g := i_gS S c) (cu := cu) hn hs hc hk h1 h2
    refine ⟨r1, r2, r3, ?_⟩
    cases hst : i_stands S.2.2.2.2.1.2.2.1 (i_gS S c) c h (S.2.1.2 c).2.1 (S.2.1.2 c).1 with
    | true => have := r4 hst; simp; omega
    | false => have := r5 hst; simp; omega
theorem pt32 {x : Int64} {h : Int32} (h0 : 0 ≤ x.toInt) (h1 : x.toInt ≤ h.toInt) (h2 : h.toInt ≤ 1000000) : x.toInt32.toInt = x.toInt ∧ x.toInt32.toInt64 = x := by
  have e := i64_32 (a := x) (by omega)
  exact ⟨e, k64 _ (by rw [i32_64, e])⟩
theorem cp_eq {n : Nat} {S : MS} {c : Nat} {h : Int32} {u : Int32} (hn : n ≤ 400) (hs : nmok n S.2.1.2 S.2.2.2.2.1.2.2.1 S.2.2.2.2.1.2.2.2.2.2.1) (hc : c < 4) (hk : ckok (S.2.1.2 c)) (h1 : 1 ≤ h.toInt) (h2 : h.toInt ≤ 1000000) (hu : u = 0 ∨ u = 1) :
    c_part (c_op S.2.2.2.2.1.2.2.1 S.2.2.2.2.1.2.2.2.2.2.2.1 c (S.2.1.2 c).2.2.1) S.2.2.2.2.1.2.2.2.2.2.2.2 c h (S.2.1.2 c).2.1 (S.2.1.2 c).1 u = (i_pt S c h (decide (u = 1))).toInt32 := by
  have hs' := hs
  obtain ⟨g0, g2, g1, g3, g7, g8, gi⟩ := hs'
  obtain ⟨⟨k1, k2⟩, ⟨k3, k4⟩, ⟨k5, k6⟩, k7⟩ := hk
  have g8c := g8 c hc
  unfold c_part i_pt
  by_cases hcl : S.2.2.2.2.1.2.2.2.2.2.2.2 c = true
  · rw [if_pos hcl, if_pos hcl]; rfl
  · rw [if_neg hcl, if_neg hcl, op_eq]
    have hg := i_g_rng (m := S.2.2.2.2.1.2.2.2.2.2.2.1 c) hn hs ⟨k5, k6⟩
    unfold c_fit i_part
    have eg : i_gS S c = i_g S.2.2.2.2.1.2.2.1 (S.2.2.2.2.1.2.2.2.2.2.2.1 c) (S.2.1.2 c).2.2.1 := rfl
    rw [← eg] at hg ⊢
    generalize i_gS S c = g at hg ⊢
    have e0 : ups S.2.2.2.2.1.2.2.1 1 g 0 = S.2.2.2.2.1.2.2.1 0 := ups_ne (by decide)
    have e2 : ups S.2.2.2.2.1.2.2.1 1 g 2 = S.2.2.2.2.1.2.2.1 2 := ups_ne (by decide)
    have e7 : ups S.2.2.2.2.1.2.2.1 1 g 7 = S.2.2.2.2.1.2.2.1 7 := ups_ne (by decide)
    have e8 : ups S.2.2.2.2.1.2.2.1 1 g (8 + c) = S.2.2.2.2.1.2.2.1 (8 + c) := ups_ne (by omega)
    have c1 : (1 : Int64).toInt = 1 := by decide
    have d1 : (1 : Int32).toInt = 1 := by decide
    have eh : (h - 1).toInt64 = h.toInt64 - 1 := k64 _ (by rw [i32_64, i32_sub (by rw [d1]; omega), i64_sub (by rw [i32_64, c1]; omega), i32_64, c1, d1])
    have er : ((S.2.1.2 c).1.toInt64 - S.2.2.2.2.1.2.2.1 (8 + c)).toInt = (S.2.1.2 c).1.toInt - (S.2.2.2.2.1.2.2.1 (8 + c)).toInt := by rw [i64_sub (by rw [i32_64]; omega), i32_64]
    have es : (S.2.2.2.2.1.2.2.1 (8 + c) + h.toInt64).toInt = (S.2.2.2.2.1.2.2.1 (8 + c)).toInt + h.toInt := by rw [i64_add (by rw [i32_64]; omega), i32_64]
    have ef : c_fits (ups S.2.2.2.2.1.2.2.1 1 g) c h (S.2.1.2 c).2.1 (S.2.1.2 c).1 = i_stands S.2.2.2.2.1.2.2.1 g c h (S.2.1.2 c).2.1 (S.2.1.2 c).1 := by
      unfold c_fits i_stands i_needs i_free
      rw [e0, e2, e7, e8, ups_eq, er, es, i32_64, i32_64]
      refine decide_eq_decide.mpr ?_
      refine and_congr ⟨fun q => q.symm, fun q => q.symm⟩ ⟨fun q => by omega, fun q => by omega⟩
    have em : c_most (ups S.2.2.2.2.1.2.2.1 1 g) c h (S.2.1.2 c).2.1 (S.2.1.2 c).1 = i_goes S.2.2.2.2.1.2.2.1 g c h (S.2.1.2 c).2.1 (S.2.1.2 c).1 := by
      unfold c_most i_goes i_free
      rw [e0, e2, e8, ups_eq, eh, c_min_eq, c_min_eq]
      by_cases hf : (S.2.1.2 c).2.1 = 0
      · rw [if_pos hf, if_neg (by rw [hf]; decide)]
      · rw [if_neg hf, if_pos (by
          have : (S.2.1.2 c).2.1.toInt ≠ 0 := fun q => hf (Int32.toInt_inj.mp (by rw [q]; decide))
          omega)]
    rw [ef, em]
    split
    · exact Int32.toInt_inj.mp (by rw [i64_32 (by rw [i32_64]; omega), i32_64])
    · rcases hu with hu | hu
      · rw [if_pos hu, if_neg (by rw [hu]; rintro ⟨q, -⟩; revert q; decide)]; rfl
      · rw [if_neg (by rw [hu]; decide)]
        by_cases hq : (i_goes S.2.2.2.2.1.2.2.1 g c h (S.2.1.2 c).2.1 (S.2.1.2 c).1).toInt < 1
        · rw [if_pos hq, if_neg (by rintro ⟨-, q⟩; omega)]; rfl
        · rw [if_neg hq, if_pos ⟨by rw [hu]; decide, by omega⟩]
theorem fac_rng {x : Int64} {f : Int32} (h0 : 0 ≤ x.toInt) (h1 : x.toInt ≤ 1000000) (f0 : 0 ≤ f.toInt) (f1 : f.toInt ≤ 2000) : 0 ≤ (x * f.toInt64 / 1000).toInt ∧ (x * f.toInt64 / 1000).toInt ≤ 2000000 := by
  have m0 : 0 ≤ x.toInt * f.toInt := Int.mul_nonneg h0 f0
  have m1 : x.toInt * f.toInt ≤ 1000000 * 2000 := Int.mul_le_mul h1 f1 f0 (by omega)
  have e : (x * f.toInt64).toInt = x.toInt * f.toInt := by rw [i64_mul (by rw [i32_64]; omega), i32_64]
  rw [i64_div (by rw [e]; omega) (by decide), e, k1000]
  omega
theorem nm_ins {n : Nat} {S : MS} {c : Nat} {h : Int32} {cu : Bool} (hn : n ≤ 400) (hs : nmok n S.2.1.2 S.2.2.2.2.1.2.2.1 S.2.2.2.2.1.2.2.2.2.2.1) (hc : c < 4) (hk : ckok (S.2.1.2 c)) (h1 : 1 ≤ h.toInt) (h2 : h.toInt ≤ 1000000) : nmok (n + 1) S.2.1.2 (m_ins S c h cu).2.2.2.2.1.2.2.1 (m_ins S c h cu).2.2.2.2.1.2.2.2.2.2.1 := by
  have hs' := hs
  obtain ⟨g0, g2, g1, g3, g7, g8, gi⟩ := hs'
  obtain ⟨⟨k1, k2⟩, ⟨k3, k4⟩, ⟨k5, k6⟩, ⟨k7, k8⟩⟩ := hk
  obtain ⟨r1, r2, r3, r4⟩ := i_pt_rng (cu := cu) hn hs hc ⟨⟨k1, k2⟩, ⟨k3, k4⟩, ⟨k5, k6⟩, ⟨k7, k8⟩⟩ h1 h2
  have hg := i_g_rng (m := S.2.2.2.2.1.2.2.2.2.2.2.1 c) hn hs ⟨k5, k6⟩
  have hf := fac_rng (x := i_pt S c h cu) (f := (S.2.1.2 c).2.1) r1 (by omega) k3 k4
  have g8c := g8 c hc
  unfold m_ins m_pi m_met
  dsimp only
  generalize i_pt S c h cu = p at *
  generalize i_g S.2.2.2.2.1.2.2.1 (S.2.2.2.2.1.2.2.2.2.2.2.1 c) (S.2.1.2 c).2.2.1 = g at *
  rw [ups_ne (show 8 + c ≠ 1 by omega), ups_eq]
  have e8 : (S.2.2.2.2.1.2.2.1 (8 + c) + p).toInt = (S.2.2.2.2.1.2.2.1 (8 + c)).toInt + p.toInt := i64_add (by omega)
  have e1 : (g - p * (S.2.1.2 c).2.1.toInt64 / 1000).toInt = g.toInt - (p * (S.2.1.2 c).2.1.toInt64 / 1000).toInt := i64_sub (by omega)
  refine ⟨?_, ?_, ?_, fun k hk => ?_, ?_, fun d hd => ?_, ?_⟩
  · rw [ups_ne (by decide), ups_ne (by omega), ups_ne (by decide)]; omega
  · rw [ups_ne (by decide), ups_ne (by omega), ups_ne (by decide)]; omega
  · rw [ups_eq, e1]; omega
  · rw [ups_ne (by omega), ups_ne (by omega), ups_ne (by omega)]; have := g3 k hk; omega
  · rw [ups_ne (by decide), ups_ne (by omega), ups_ne (by decide)]; omega
  · rw [ups_ne (by omega)]
    by_cases hdc : d = c
    · subst hdc; rw [ups_eq, e8]; omega
    · rw [ups_ne (by omega), ups_ne (by omega)]; exact g8 d hd
  · split
    · omega
    · rw [i64_add (by rw [i32_64]; omega), i32_64]; omega
/-- the state after an insert was put: as the class has it -/
theorem cs_eq {n : Nat} {S : MS} {c : Nat} {h : Int32} {u : Int32} (hn : n ≤ 400) (hs : nmok n S.2.1.2 S.2.2.2.2.1.2.2.1 S.2.2.2.2.1.2.2.2.2.2.1) (hc : c < 4) (hk : ckok (S.2.1.2 c)) (h1 : 1 ≤ h.toInt) (h2 : h.toInt ≤ 1000000) (hu : u = 0 ∨ u = 1) (part : Int32) (hpart : part = c_part (c_op S.2.2.2.2.1.2.2.1 S.2.2.2.2.1.2.2.2.2.2.2.1 c (S.2.1.2 c).2.2.1) S.2.2.2.2.1.2.2.2.2.2.2.2 c h (S.2.1.2 c).2.1 (S.2.1.2 c).1 u) :
    part = (i_pt S c h (decide (u = 1))).toInt32 ∧ (part.toInt < h.toInt ↔ i_sd S c h = false) ∧ c_st (c_op S.2.2.2.2.1.2.2.1 S.2.2.2.2.1.2.2.2.2.2.2.1 c (S.2.1.2 c).2.2.1) c part (S.2.1.2 c).2.1 = (m_ins S c h (decide (u = 1))).2.2.2.2.1.2.2.1 := by
  have e := hpart.trans (cp_eq hn hs hc hk h1 h2 hu)
  obtain ⟨r1, r2, r3, r4⟩ := i_pt_rng (cu := decide (u = 1)) hn hs hc hk h1 h2
  obtain ⟨p1, p2⟩ := pt32 r1 r2 h2
  refine ⟨e, ?_, ?_⟩
  · rw [e, p1]
    cases hsd : i_sd S c h with
    | true => have := r4.mp hsd; simp; omega
    | false =>
      have : (i_pt S c h (decide (u = 1))).toInt < h.toInt := Classical.byContradiction fun q => by rw [r4.mpr q] at hsd; cases hsd
      simp [this]
  · rw [e]
    unfold c_st m_ins m_pi m_met
    dsimp only
    rw [p2, op_eq]
