/-! THE LAW: class and reference side by side -/
theorem RMI_mv {w w' : xM} {M M' : Nat → Nat} {S : MI} (h : RMI w M S) (hw : ∀ c, c ∈ [2, 3, 4, 5, 6] → w' (M' c) = w (M c)) : RMI w' M' S := by
  obtain ⟨h1, h2, h3, h4, h5⟩ := h
  exact ⟨aw_mv h1 (hw _ (by simp)) fun _ _ => rfl, aw_mv h2 (hw _ (by simp)) fun _ _ => rfl, aw_mv h3 (hw _ (by simp)) fun _ _ => rfl, aw_mv h4 (hw _ (by simp)) fun _ _ => rfl, aw_mv h5 (hw _ (by simp)) fun _ _ => rfl⟩
def mul : List Nat := [0, 2, 3, 4, 5, 6, 8, 9, 10, 11, 16, 17, 19, 20, 21, 22, 24, 28, 29, 35, 36, 37, 38, 39, 40, 41, 43, 44]
theorem RM_mv {w w' : xM} {M M' : Nat → Nat} {thr : Int32} {S : MS} (h : RM w M thr S) (hM : ∀ c, c ∈ mul → M' c = M c) (hw : ∀ c, c ∈ mul → w' (M c) = w (M c)) : RM w' M' thr S := by
  have hwM : ∀ c, c ∈ mul → w' (M' c) = w (M c) := fun c hc => by rw [hM c hc]; exact hw c hc
  obtain ⟨h0, hI, hC, hL, hD, hS, hP, hX⟩ := h
  refine ⟨?_, RMI_mv hI fun c hc => hwM c ?_, ?_, ?_, ?_, ?_, ?_, ?_⟩
  · rw [hwM 0 (by decide), h0]
    unfold mo_ mobj
    rw [hM 2 (by decide), hM 3 (by decide), hM 4 (by decide), hM 5 (by decide), hM 6 (by decide), hM 8 (by decide), hM 9 (by decide), hM 10 (by decide), hM 11 (by decide), hM 16 (by decide), hM 17 (by decide), hM 19 (by decide), hM 20 (by decide), hM 21 (by decide), hM 22 (by decide), hM 24 (by decide), hM 28 (by decide), hM 29 (by decide), hM 35 (by decide), hM 36 (by decide), hM 37 (by decide), hM 38 (by decide), hM 39 (by decide), hM 40 (by decide), hM 41 (by decide), hM 43 (by decide), hM 44 (by decide)]
  · simp at hc; unfold mul; simp; omega
  · obtain ⟨h1, h2, h3, h4⟩ := hC
    exact ⟨aw_mv h1 (hwM _ (by decide)) fun _ _ => rfl, aw_mv h2 (hwM _ (by decide)) fun _ _ => rfl, aw_mv h3 (hwM _ (by decide)) fun _ _ => rfl, aw_mv h4 (hwM _ (by decide)) fun _ _ => rfl⟩
  · obtain ⟨h1, h2⟩ := hL
    exact ⟨aw_mv h1 (hwM _ (by decide)) fun _ _ => rfl, aw_mv h2 (hwM _ (by decide)) fun _ _ => rfl⟩
  · obtain ⟨h1, h2, h3, h4, h5, h6⟩ := hD
    exact ⟨aw_mv h1 (hwM _ (by decide)) fun _ _ => rfl, aw_mv h2 (hwM _ (by decide)) fun _ _ => rfl, aw_mv h3 (hwM _ (by decide)) fun _ _ => rfl, aw_mv h4 (hwM _ (by decide)) fun _ _ => rfl, (hwM _ (by decide)).trans h5, (hwM _ (by decide)).trans h6⟩
  · obtain ⟨V, h1, h2⟩ := hS
    exact ⟨V, (hwM _ (by decide)).trans h1, h2⟩
  · obtain ⟨h1, h2, h3, h4, h5, h6, h7⟩ := hP
    exact ⟨aw_mv h1 (hwM _ (by decide)) fun _ _ => rfl, aw_mv h2 (hwM _ (by decide)) fun _ _ => rfl, aw_mv h3 (hwM _ (by decide)) fun _ _ => rfl, aw_mv h4 (hwM _ (by decide)) fun _ _ => rfl, aw_mv h5 (hwM _ (by decide)) fun _ _ => rfl, aw_mv h6 (hwM _ (by decide)) fun _ _ => rfl, aw_mv h7 (hwM _ (by decide)) fun _ _ => rfl⟩
  · obtain ⟨h1, h2⟩ := hX
    exact ⟨aw_mv h1 (hwM _ (by decide)) fun _ _ => rfl, aw_mv h2 (hwM _ (by decide)) fun _ _ => rfl⟩
/-- class in state S, reference in state T; 'it' calls done -/
def JJ (B : Nat) (ad : Nat → Nat) (V : List Value) (b it : Nat) (S T : MS) (A M : Nat → Nat) (th : Int32) (y : Int64) (σ : xW) : Prop :=
  iv S ∧ RC σ.1 ad A S ∧ adS B σ.2.1 A S ∧ RM σ.1 M th T ∧ ainj M ∧ (∀ c, B ≤ M c) ∧ (∀ c, (c ∈ mul ∧ M c < B + 46) ∨ (c ∉ mul ∧ B + 10000000 ≤ M c)) ∧ (∀ c d, us S.1.1 S.2.1.1 S.2.2.2.2.2.2.length c → A c ≠ M d) ∧ knd σ.1 ad ∧ (∀ i, i < 6 → ad i < B) ∧ σ.1 b = some (106, V) ∧ b < B ∧ σ.1 (B + 45) = some (101, [.long y]) ∧ (∀ c, us S.1.1 S.2.1.1 S.2.2.2.2.2.2.length c → A c ≠ B + 45) ∧ (∀ c, M c ≠ B + 45) ∧ B + 46 ≤ σ.2.1 ∧ σ.2.1 ≤ B + 46 + it + 6 * S.2.2.2.2.2.2.length ∧ σ.2.2 ≤ 70000 + 13 * it + 822 * S.2.2.2.2.2.2.length ∧ it ≤ 600
/-- the class has made a call -/
theorem jc {B : Nat} {ad : Nat → Nat} {V : List Value} {b it : Nat} {S S' T : MS} {A A' M : Nat → Nat} {th : Int32} {y : Int64} {σ : xW} {w' : xM} {N' sl' : Nat} (h : JJ B ad V b it S T A M th y σ) (hit : it < 600) (hi : iv S') (hR : RC w' ad A' S') (ha : adS B N' A' S') (hold : ∀ c, us S'.1.1 S'.2.1.1 S'.2.2.2.2.2.2.length c → (us S.1.1 S.2.1.1 S.2.2.2.2.2.2.length c ∧ A' c = A c) ∨ σ.2.1 ≤ A' c) (hf : frS A S σ.2.1 σ.1 w') (hN : σ.2.1 ≤ N') (hN2 : N' + 6 * S.2.2.2.2.2.2.length ≤ σ.2.1 + 1 + 6 * S'.2.2.2.2.2.2.length) (hs2 : sl' + 822 * S.2.2.2.2.2.2.length ≤ σ.2.2 + 13 + 822 * S'.2.2.2.2.2.2.length) : JJ B ad V b (it + 1) S' T A' M th y (w', N', sl') := by
  obtain ⟨j1, j2, j3, j4, j5, j6, j7, j8, j9, j10, j11, j12, j13, j14, j15, j16, j17, j18, j19⟩ := h
  have h60 := hi.2.2.2.2.2.2.1
  have hAB := ha.2.1
  have hlt := ha.2.2.1
  refine ⟨hi, hR, ha, ?_, j5, j6, j7, fun c d hc => ?_, knd_S j9 j10 j3.2.1 (by omega) hf, j10, ?_, j12, ?_, fun c hc => ?_, j15, by dsimp only; omega, by dsimp only; omega, by dsimp only; omega, by omega⟩
  · refine RM_mv j4 (fun _ _ => rfl) fun c hcm => ?_
    rcases j7 c with ⟨-, q⟩ | ⟨q, -⟩
    · exact hf _ (by omega) fun d hd => fun e => j8 d c hd e.symm
    · exact absurd hcm q
  · rcases hold c hc with ⟨q1, q2⟩ | q
    · rw [q2]; exact j8 c d q1
    · rcases j7 d with ⟨-, z⟩ | ⟨-, z⟩
      · omega
      · have := hlt c hc
        omega
  · rw [← j11]
    exact hf b (by omega) fun c _ => by have := j3.2.1 c; omega
  · rw [← j13]
    exact hf _ (by omega) fun c hc => fun e => j14 c hc e.symm
  · rcases hold c hc with ⟨q1, q2⟩ | q
    · rw [q2]; exact j14 c q1
    · omega
/-- the reference has made a call -/
theorem jr {B : Nat} {ad : Nat → Nat} {V : List Value} {b it : Nat} {S T T' : MS} {A M : Nat → Nat} {th th' : Int32} {y : Int64} {σ : xW} {w' : xM} (h : JJ B ad V b it S T A M th y σ) (hR : RM w' M th' T') (hf : frx M σ.1 w') : JJ B ad V b it S T' A M th' y (w', σ.2) := by
  obtain ⟨j1, j2, j3, j4, j5, j6, j7, j8, j9, j10, j11, j12, j13, j14, j15, j16, j17, j18, j19⟩ := h
  refine ⟨j1, RC_mv j1 j2 (fun _ _ => rfl) fun c hc => hf _ fun d => j8 c d hc, j3, hR, j5, j6, j7, j8, knd_frm j9 fun i hi => hf _ fun d => by have := j10 i hi; have := j6 d; omega, j10, ?_, j12, ?_, j14, j15, j16, j17, j18, j19⟩
  · rw [← j11]; exact hf _ fun d => by have := j6 d; omega
  · rw [← j13]; exact hf _ fun d e => j15 d e.symm
theorem frx0 {M : Nat → Nat} {w : xM} {e : xE} : frx M w (x_up w (M 0) e) := fun q hq => x_up_ne _ _ (hq 0)
theorem jt {B : Nat} {ad : Nat → Nat} {V : List Value} {b it : Nat} {S T : MS} {A M : Nat → Nat} {th t : Int32} {y : Int64} {σ : xW} (h : JJ B ad V b it S T A M th y σ) : JJ B ad V b it S T A M t y (x_up σ.1 (M 0) (mo_ M t T), σ.2) := jr h (RM_thr h.2.2.2.2.1 h.2.2.2.1) frx0
/-- a call that leaves the class as it was -/
theorem js {B : Nat} {ad : Nat → Nat} {V : List Value} {b it : Nat} {S T : MS} {A M : Nat → Nat} {th : Int32} {y : Int64} {σ : xW} (h : JJ B ad V b it S T A M th y σ) (hit : it < 600) : JJ B ad V b (it + 1) S T A M th y σ := jc (w' := σ.1) (N' := σ.2.1) (sl' := σ.2.2) h hit h.1 h.2.1 h.2.2.1 (fun c hc => Or.inl ⟨hc, rfl⟩) frC_rf (Nat.le_refl _) (by omega) (by omega)
theorem j_far {B : Nat} {ad : Nat → Nat} {V : List Value} {b it : Nat} {S T : MS} {A M : Nat → Nat} {th : Int32} {y : Int64} {σ : xW} (h : JJ B ad V b it S T A M th y σ) : ∀ i j, i < 6 → ad i ≠ A j := fun i j hi => by
  have := h.2.2.2.2.2.2.2.2.2.1 i hi
  have := h.2.2.1.2.1 j
  omega
/-- new cells for the class: one at code b -/
theorem j_new {B : Nat} {ad : Nat → Nat} {V : List Value} {b it : Nat} {S T : MS} {A M : Nat → Nat} {th : Int32} {y : Int64} {σ : xW} (h : JJ B ad V b it S T A M th y σ) (k : Nat) (hk : ¬ us S.1.1 S.2.1.1 S.2.2.2.2.2.2.length k) : ∃ A', ainj A' ∧ (∀ c, B ≤ A' c) ∧ A' k = σ.2.1 ∧ RC σ.1 ad A' S ∧ A' 0 = A 0 ∧ (∀ c, us S.1.1 S.2.1.1 S.2.2.2.2.2.2.length c → A' c = A c) ∧ ∀ ni nc np, (∀ c, us ni nc np c ↔ us S.1.1 S.2.1.1 S.2.2.2.2.2.2.length c ∨ c = k) → adr B (σ.2.1 + 1) A' ni nc np := by
  have ha := h.2.2.1
  have hBN : B ≤ σ.2.1 := by have := h.2.2.2.2.2.2.2.2.2.2.2.2.2.2.2.1; omega
  have h1 := nwA_adr0 (b := k) (k := 1) ha hBN
  have hu : ∀ c, us S.1.1 S.2.1.1 S.2.2.2.2.2.2.length c → nwA A σ.2.1 S.1.1 S.2.1.1 S.2.2.2.2.2.2.length k 1 c = A c := fun c hc => nwA_u hc
  refine ⟨nwA A σ.2.1 S.1.1 S.2.1.1 S.2.2.2.2.2.2.length k 1, h1.1, h1.2.1, nwA_n (b := k) (j := 0) hk (by decide), RC_mv h.1 h.2.1 hu fun _ _ => rfl, hu 0 (us_le (by decide)), hu, fun ni nc np hn => nwA_adr ha hBN fun c => ?_⟩
  rw [hn c]
  constructor
  · rintro (z | z)
    · exact Or.inl z
    · exact Or.inr (by omega)
  · rintro (z | z)
    · exact Or.inl z
    · exact Or.inr (by omega)
