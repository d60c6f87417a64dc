/-! HOW THE CLASS HOLDS THE MODEL'S STATE: codes 0 to 16, 20 + k, 100 + i, 1000 + 6 p + .. -/
abbrev us (ni nc np c : Nat) : Prop := c ≤ 16 ∨ (20 ≤ c ∧ c < 20 + nc) ∨ (100 ≤ c ∧ c < 100 + ni) ∨ (1000 ≤ c ∧ c < 1000 + 6 * np)
def pbc (A : Nat → Nat) (S : MS) : xE := (7, [.ref (A 1), .int (nI S.1.1), .ref (A 2), .int (nI S.2.1.1), .ref (A 3), .int (nI S.2.2.2.2.2.2.length), .ref (A 4), .ref (A 6), .int S.2.2.1.1, .int S.2.2.1.2.1, .int S.2.2.1.2.2])
def RCi (w : xM) (A : Nat → Nat) (n : Nat) : Prop := aw w A 1 103 400 n (fun i => .ref (A (100 + i)))
def RCc (w : xM) (A : Nat → Nat) (n : Nat) : Prop := aw w A 2 104 4 n (fun i => .ref (A (20 + i)))
def RCp (w : xM) (A : Nat → Nat) (n : Nat) : Prop := aw w A 3 105 60 n (fun p => .ref (A (1000 + 6 * p)))
def RCl (w : xM) (A : Nat → Nat) (l : List Nat) : Prop := ∃ V hn, lnc w (A 4) (A 5) V hn (l.map fun i => A (100 + i))
def RCd (w : xM) (A : Nat → Nat) (D : MD) (b : MB) : Prop := ∃ VI VP co bs bp bst, drc w A D.1.length (bz D.2.1) D.2.2.2.1.toInt64 D.2.2.2.2.1.toInt64 D.2.2.2.2.2.1 co bs bp VI VP D.2.2.1 bst (fun j => bz (D.2.2.2.2.2.2.1 j)) (fun j => bz (D.2.2.2.2.2.2.2 j)) ∧ apre VI 400 D.1.length (fun k => .ref (A (100 + on_i D.1 k))) ∧ apre VP 400 D.1.length (fun k => .int (on_p D.1 k)) ∧ (b.1 = false → co = 1073741823) ∧ (b.1 = true → co = b.2.2.1 ∧ bs = b.2.1 ∧ bp = b.2.2.2.1 ∧ bst = b.2.2.2.2)
def RCI (w : xM) (ad A : Nat → Nat) (I : MI) (lf : Nat → Int32) (we : Nat → Bool) : Prop := ∀ i, i < I.1 → ∃ pl sd, w (A (100 + i)) = some (icell ad A i (I.2 i) (lf i) (bz (we i)) pl sd)
def ccell (k : Nat) (c : Int32 × Int32 × Int32 × Int32) : xE := (2, [.int (nI k), .int c.1, .int c.2.1, .int c.2.2.1, .int c.2.2.2])
def RCC (w : xM) (A : Nat → Nat) (C : MC) : Prop := ∀ k, k < C.1 → w (A (20 + k)) = some (ccell k (C.2 k))
def pgc (w : xM) (A : Nat → Nat) (p : Nat) (g : PG) : Prop := w (A (1000 + 6 * p)) = some (6, [.ref (A (1000 + 6 * p + 4)), .ref (A (1000 + 6 * p + 5)), .ref (A (1000 + 6 * p + 1)), .long g.2.2.1, .int g.2.2.2.1, .int g.2.2.2.2.1, .int g.2.2.2.2.2.1, .int g.2.2.2.2.2.2]) ∧ msr w (A (1000 + 6 * p + 1)) (A (1000 + 6 * p + 2)) (A (1000 + 6 * p + 3)) g.2.1 ∧ w (A (1000 + 6 * p + 4)) = some (100, g.1.map (fun q => .int (nI q.1))) ∧ w (A (1000 + 6 * p + 5)) = some (100, g.1.map (fun q => .int q.2))
def RCP (w : xM) (A : Nat → Nat) (P : List PG) : Prop := ∀ p, p < P.length → pgc w A p (pg_at P p)
def RC (w : xM) (ad A : Nat → Nat) (S : MS) : Prop := w (A 0) = some (pbc A S) ∧ RCi w A S.1.1 ∧ RCc w A S.2.1.1 ∧ RCp w A S.2.2.2.2.2.2.length ∧ RCl w A S.2.2.2.1.1 ∧ RCd w A S.2.2.2.2.1 S.2.2.2.2.2.1 ∧ RCI w ad A S.1 S.2.2.2.1.2.1 S.2.2.2.1.2.2 ∧ RCC w A S.2.1 ∧ RCP w A S.2.2.2.2.2.2
theorem aw_mv {w w' : xM} {A A' : Nat → Nat} {c t N n : Nat} {f g : Nat → Value} (h : aw w A c t N n f) (hw : w' (A' c) = w (A c)) (hg : ∀ i, i < n → f i = g i) : aw w' A' c t N n g := by
  obtain ⟨V, h1, h2⟩ := h
  exact ⟨V, hw.trans h1, apre_congr h2 hg⟩
theorem RCi_mv {w w' : xM} {A A' : Nat → Nat} {n : Nat} (h : RCi w A n) (hw : w' (A' 1) = w (A 1)) (hA : ∀ i, i < n → A' (100 + i) = A (100 + i)) : RCi w' A' n := aw_mv h hw fun i hi => by rw [hA i hi]
theorem RCc_mv {w w' : xM} {A A' : Nat → Nat} {n : Nat} (h : RCc w A n) (hw : w' (A' 2) = w (A 2)) (hA : ∀ i, i < n → A' (20 + i) = A (20 + i)) : RCc w' A' n := aw_mv h hw fun i hi => by rw [hA i hi]
theorem RCp_mv {w w' : xM} {A A' : Nat → Nat} {n : Nat} (h : RCp w A n) (hw : w' (A' 3) = w (A 3)) (hA : ∀ i, i < n → A' (1000 + 6 * i) = A (1000 + 6 * i)) : RCp w' A' n := aw_mv h hw fun i hi => by rw [hA i hi]
theorem RCl_mv {w w' : xM} {A A' : Nat → Nat} {l : List Nat} (h : RCl w A l) (hw : ∀ c, c = 4 ∨ c = 5 → w' (A' c) = w (A c)) (h5 : A' 5 = A 5) (hA : ∀ i, i ∈ l → A' (100 + i) = A (100 + i)) : RCl w' A' l := by
  obtain ⟨V, hn, h1, h2, h3⟩ := h
  have e : (l.map fun i => A' (100 + i)) = l.map fun i => A (100 + i) := List.map_congr_left fun i hi => hA i hi
  refine ⟨V, hn, ?_, ?_, ?_⟩
  · rw [hw 4 (Or.inl rfl), h1, e, h5]
  · rw [hw 5 (Or.inr rfl), h2]
  · rw [e]; exact h3
theorem drc_mv {w w' : xM} {A A' : Nat → Nat} {sz bs : Nat} {hb bp : Int32} {gd tp ins co : Int64} {VI VP : List Value} {st bst : Nat → Int64} {op cl : Nat → Int32} (h : drc w A sz hb gd tp ins co bs bp VI VP st bst op cl) (hw : ∀ c, 6 ≤ c → c ≤ 16 → w' (A' c) = w (A c)) (hA : ∀ c, 6 ≤ c → c ≤ 16 → A' c = A c) : drc w' A' sz hb gd tp ins co bs bp VI VP st bst op cl := by
  obtain ⟨h6, h7, h8, ⟨m1, m2, m3⟩, h12, h13, ⟨a1, a2, a3⟩⟩ := h
  refine ⟨?_, ?_, ?_, ⟨?_, ?_, ?_⟩, ?_, ?_, ⟨?_, ?_, ?_⟩⟩
  · rw [hw 6 (by decide) (by decide), h6, hA 7 (by decide) (by decide), hA 8 (by decide) (by decide), hA 9 (by decide) (by decide), hA 12 (by decide) (by decide), hA 13 (by decide) (by decide), hA 14 (by decide) (by decide)]
  · rw [hw 7 (by decide) (by decide), h7]
  · rw [hw 8 (by decide) (by decide), h8]
  · rw [hw 9 (by decide) (by decide), m1, hA 10 (by decide) (by decide), hA 11 (by decide) (by decide)]
  · rw [hw 10 (by decide) (by decide), m2]
  · rw [hw 11 (by decide) (by decide), m3]
  · rw [hw 12 (by decide) (by decide), h12]
  · rw [hw 13 (by decide) (by decide), h13]
  · rw [hw 14 (by decide) (by decide), a1, hA 15 (by decide) (by decide), hA 16 (by decide) (by decide)]
  · rw [hw 15 (by decide) (by decide), a2]
  · rw [hw 16 (by decide) (by decide), a3]
theorem on_i_mem {l : List (Nat × Int32 × Bool)} {k : Nat} (h : k < l.length) : ∃ q, q ∈ l ∧ on_i l k = q.1 ∧ on_p l k = q.2.1 := by
  refine ⟨l[k], List.getElem_mem h, ?_, ?_⟩
  · unfold on_i; rw [List.getD_eq_getElem?_getD, List.getElem?_eq_getElem h]; rfl
  · unfold on_p; rw [List.getD_eq_getElem?_getD, List.getElem?_eq_getElem h]; rfl
theorem RCd_mv {w w' : xM} {A A' : Nat → Nat} {D : MD} {b : MB} (h : RCd w A D b) (hw : ∀ c, 6 ≤ c → c ≤ 16 → w' (A' c) = w (A c)) (hA : ∀ c, 6 ≤ c → c ≤ 16 → A' c = A c) (hI : ∀ q, q ∈ D.1 → A' (100 + q.1) = A (100 + q.1)) : RCd w' A' D b := by
  obtain ⟨VI, VP, co, bs, bp, bst, h1, h2, h3, h4⟩ := h
  refine ⟨VI, VP, co, bs, bp, bst, drc_mv h1 hw hA, apre_congr h2 fun k hk => ?_, h3, h4⟩
  obtain ⟨q, q1, q2, -⟩ := on_i_mem hk
  rw [q2, hI q q1]
theorem RCI_mv {w w' : xM} {ad A A' : Nat → Nat} {I : MI} {nc : Nat} {lf : Nat → Int32} {we : Nat → Bool} (h : RCI w ad A I lf we) (hk : ∀ i, itok nc (I.2 i)) (h4 : nc ≤ 4) (hw : ∀ i, i < I.1 → w' (A' (100 + i)) = w (A (100 + i))) (hC : ∀ k, k < nc → A' (20 + k) = A (20 + k)) : RCI w' ad A' I lf we := fun i hi => by
  obtain ⟨pl, sd, h1⟩ := h i hi
  refine ⟨pl, sd, ?_⟩
  rw [hw i hi, h1]
  have e : it_ic A' (I.2 i) = it_ic A (I.2 i) := by
    unfold it_ic
    by_cases q : (I.2 i).1 = 4
    · obtain ⟨c, c1, c2⟩ := ((hk i).2.2.2.2.2 q).1
      rw [if_pos q, if_pos q, c2, nI_nat (by omega), hC c c1]
    · rw [if_neg q, if_neg q]
  unfold icell
  rw [e]
theorem RCC_mv {w w' : xM} {A A' : Nat → Nat} {C : MC} (h : RCC w A C) (hw : ∀ k, k < C.1 → w' (A' (20 + k)) = w (A (20 + k))) : RCC w' A' C := fun k hk => (hw k hk).trans (h k hk)
theorem pgc_mv {w w' : xM} {A A' : Nat → Nat} {p : Nat} {g : PG} (h : pgc w A p g) (hw : ∀ j, j < 6 → w' (A' (1000 + 6 * p + j)) = w (A (1000 + 6 * p + j))) (hA : ∀ j, j < 6 → A' (1000 + 6 * p + j) = A (1000 + 6 * p + j)) : pgc w' A' p g := by
  obtain ⟨h1, ⟨m1, m2, m3⟩, h4, h5⟩ := h
  refine ⟨?_, ⟨?_, ?_, ?_⟩, ?_, ?_⟩
  · rw [show w' (A' (1000 + 6 * p)) = w (A (1000 + 6 * p)) from hw 0 (by decide), h1, hA 4 (by decide), hA 5 (by decide), hA 1 (by decide)]
  · rw [hw 1 (by decide), m1, hA 2 (by decide), hA 3 (by decide)]
  · rw [hw 2 (by decide), m2]
  · rw [hw 3 (by decide), m3]
  · rw [hw 4 (by decide), h4]
  · rw [hw 5 (by decide), h5]
theorem RCP_mv {w w' : xM} {A A' : Nat → Nat} {P : List PG} (h : RCP w A P) (hw : ∀ c, 1000 ≤ c → c < 1000 + 6 * P.length → w' (A' c) = w (A c)) (hA : ∀ c, 1000 ≤ c → c < 1000 + 6 * P.length → A' c = A c) : RCP w' A' P := fun p hp => pgc_mv (h p hp) (fun j hj => hw _ (by omega) (by omega)) fun j hj => hA _ (by omega) (by omega)
theorem RC_mv {w w' : xM} {ad A A' : Nat → Nat} {S : MS} (hi : iv S) (h : RC w ad A S) (hA : ∀ c, us S.1.1 S.2.1.1 S.2.2.2.2.2.2.length c → A' c = A c) (hw : ∀ c, us S.1.1 S.2.1.1 S.2.2.2.2.2.2.length c → w' (A c) = w (A c)) : RC w' ad A' S := by
  have hwA : ∀ c, us S.1.1 S.2.1.1 S.2.2.2.2.2.2.length c → w' (A' c) = w (A c) := fun c hc => by rw [hA c hc]; exact hw c hc
  have u0 : ∀ c, c ≤ 16 → us S.1.1 S.2.1.1 S.2.2.2.2.2.2.length c := fun c hc => Or.inl hc
  have uk : ∀ k, k < S.2.1.1 → us S.1.1 S.2.1.1 S.2.2.2.2.2.2.length (20 + k) := fun k hk => Or.inr (Or.inl ⟨by omega, by omega⟩)
  have ui : ∀ i, i < S.1.1 → us S.1.1 S.2.1.1 S.2.2.2.2.2.2.length (100 + i) := fun k hk => Or.inr (Or.inr (Or.inl ⟨by omega, by omega⟩))
  have up : ∀ c, 1000 ≤ c → c < 1000 + 6 * S.2.2.2.2.2.2.length → us S.1.1 S.2.1.1 S.2.2.2.2.2.2.length c := fun c h1 h2 => Or.inr (Or.inr (Or.inr ⟨h1, h2⟩))
  obtain ⟨g0, gi, gc, gp, gl, gd, gI, gC, gP⟩ := h
  refine ⟨?_, RCi_mv gi (hwA 1 (u0 1 (by decide))) fun i h => hA _ (ui i h), RCc_mv gc (hwA 2 (u0 2 (by decide))) fun k h => hA _ (uk k h), RCp_mv gp (hwA 3 (u0 3 (by decide))) fun p h => hA _ (up _ (by omega) (by omega)), RCl_mv gl (fun c hc => hwA c (u0 c (by omega))) (hA 5 (u0 5 (by decide))) fun i h => hA _ (ui i (iv_ln hi h)), RCd_mv gd (fun c _ hc => hwA c (u0 c hc)) (fun c _ hc => hA c (u0 c hc)) fun q hq => hA _ (ui _ (iv_pn hi hq)), RCI_mv gI hi.1.2.2.1 hi.1.2.1 (fun i h => hwA _ (ui i h)) fun k h => hA _ (uk k h), RCC_mv gC fun k h => hwA _ (uk k h), RCP_mv gP (fun c h1 h2 => hwA c (up c h1 h2)) fun c h1 h2 => hA c (up c h1 h2)⟩
  rw [hwA 0 (u0 0 (by decide)), g0]
  unfold pbc
  rw [hA 1 (u0 1 (by decide)), hA 2 (u0 2 (by decide)), hA 3 (u0 3 (by decide)), hA 4 (u0 4 (by decide)), hA 6 (u0 6 (by decide))]
/-- the addresses: used ones below N, the others not -/
def adr (B N : Nat) (A : Nat → Nat) (ni nc np : Nat) : Prop := ainj A ∧ (∀ c, B ≤ A c) ∧ (∀ c, us ni nc np c → A c < N) ∧ ∀ c, ¬ us ni nc np c → N ≤ A c
/-- addresses for k codes more -/
def nwA (A : Nat → Nat) (N ni nc np b k : Nat) : Nat → Nat := fun c => if us ni nc np c then A c else if b ≤ c ∧ c < b + k then N + (c - b) else N + k + c
theorem nwA_u {A : Nat → Nat} {N ni nc np b k c : Nat} (h : us ni nc np c) : nwA A N ni nc np b k c = A c := if_pos h
theorem nwA_n {A : Nat → Nat} {N ni nc np b k j : Nat} (h : ¬ us ni nc np (b + j)) (hj : j < k) : nwA A N ni nc np b k (b + j) = N + j := by
  unfold nwA
  rw [if_neg h, if_pos ⟨by omega, by omega⟩]
  omega
theorem nwA_adr {B N : Nat} {A : Nat → Nat} {ni nc np ni' nc' np' b k : Nat} (h : adr B N A ni nc np) (hB : B ≤ N) (hu : ∀ c, us ni' nc' np' c ↔ us ni nc np c ∨ (b ≤ c ∧ c < b + k)) : adr B (N + k) (nwA A N ni nc np b k) ni' nc' np' := by
  obtain ⟨a1, a2, a3, a4⟩ := h
  have cs : ∀ c, (us ni nc np c ∧ nwA A N ni nc np b k c = A c ∧ A c < N) ∨ (¬ us ni nc np c ∧ b ≤ c ∧ c < b + k ∧ nwA A N ni nc np b k c = N + (c - b)) ∨ (¬ us ni nc np c ∧ ¬ (b ≤ c ∧ c < b + k) ∧ nwA A N ni nc np b k c = N + k + c) := fun c => by
    unfold nwA
    by_cases h1 : us ni nc np c
    · exact Or.inl ⟨h1, if_pos h1, a3 c h1⟩
    · by_cases h2 : b ≤ c ∧ c < b + k
      · exact Or.inr (Or.inl ⟨h1, h2.1, h2.2, by rw [if_neg h1, if_pos h2]⟩)
      · exact Or.inr (Or.inr ⟨h1, h2, by rw [if_neg h1, if_neg h2]⟩)
  refine ⟨fun c d e => ?_, fun c => ?_, fun c hc => ?_, fun c hc => ?_⟩
  · rcases cs c with ⟨h1, h2, h3⟩ | ⟨h1, h2, h3, h4⟩ | ⟨h1, h2, h3⟩ <;> rcases cs d with ⟨g1, g2, g3⟩ | ⟨g1, g2, g3, g4⟩ | ⟨g1, g2, g3⟩
    · exact a1 c d (by rw [← h2, ← g2]; exact e)
    all_goals omega
  · rcases cs c with ⟨h1, h2, h3⟩ | ⟨h1, h2, h3, h4⟩ | ⟨h1, h2, h3⟩
    · rw [h2]; exact a2 c
    all_goals omega
  · have hc' := (hu c).mp hc
    rcases cs c with ⟨h1, h2, h3⟩ | ⟨h1, h2, h3, h4⟩ | ⟨h1, h2, h3⟩
    · omega
    · omega
    · exact absurd hc' (fun q => q.elim h1 h2)
  · have hc' : ¬ (us ni nc np c ∨ (b ≤ c ∧ c < b + k)) := fun q => hc ((hu c).mpr q)
    rcases cs c with ⟨h1, h2, h3⟩ | ⟨h1, h2, h3, h4⟩ | ⟨h1, h2, h3⟩
    · exact absurd (Or.inl h1) hc'
    · exact absurd (Or.inr ⟨h2, h3⟩) hc'
    · omega
/-- the frame of a class's method: what it doesn't hold stays -/
def frC (A : Nat → Nat) (ni nc np N : Nat) (w w' : xM) : Prop := ∀ q, q < N → (∀ c, us ni nc np c → q ≠ A c) → w' q = w q
theorem frC_rf {A : Nat → Nat} {ni nc np N : Nat} {w : xM} : frC A ni nc np N w w := fun _ _ _ => rfl
