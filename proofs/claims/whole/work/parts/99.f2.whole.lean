/-- from the entry, for every script of at most 2560 ints, the law comes to its end with true -/
theorem whole_start {p : Program} {e : Env} {s : State} {m : MethodId} {below : List Frame} {meth : Method} {c : Code} (l : Launch) (hfl : l.flags = flags0) {b L : Nat} {xs : Nat → Int32} (hL : L ≤ 2560) (C0 : lw_At p s m meth c b L xs) : W p l e room_1 s m #[Value.ref b] below meth c s.heap [] 0 0 (lw_Z below #[Value.ref b] s) (entryFrame m ([Value.ref b] : List Value).toArray 7) := by
  obtain ⟨hx, hb, hr, hml, hown, hts, hX, hbl, hlocks, hgv⟩ := C0
  obtain ⟨D, hK⟩ := ws_K hts
  obtain ⟨cA, hA⟩ := ws_arr hts
  obtain ⟨ad, hE⟩ := ws_En hts hgv
  have hT : x_tk D cA ad s.heap.size s s.heap := ⟨hK, hA, ws_AO hts, ws_nest hts, hE, ws_thr hts hgv⟩
  have F : x_fx p s m #[Value.ref b] c cL_law RL D cA ad s.heap.size := ⟨hx, hb, hown, fun w hw => hts w (xT_tbl w hw), hT, Nat.le_refl _⟩
  have had : ∀ i, i < 6 → ad i < s.heap.size := by
    intro i hi
    obtain ⟨cell, h1, -⟩ := (hE.1 i hi).2.1
    exact (Array.getElem?_eq_some_iff.mp h1).1
  let V : List Value := (List.range L).map fun j => Value.int (xs j)
  have hVl : V.length = L := by simp [V]
  have hV : ∀ k, k < L → V[k]? = some (.int (xs k)) := fun k hk => by simp [V, hk]
  let w0 : xM := fun q => if q = b then some (106, V) else none
  have hw0 : w0 b = some (106, V) := if_pos rfl
  have hok : x_ok D cA s.heap.size s (w0, s.heap.size, 0) s.heap := by
    refine ⟨fun a f hf => ?_, rfl⟩
    have hf : (if a = b then some ((106, V) : xE) else none) = some f := hf
    by_cases hab : a = b
    · rw [if_pos hab] at hf
      cases hf
      subst hab
      obtain ⟨scr, g1, g2, g3, g4, g5⟩ := hX
      refine Or.inr (Or.inr (Or.inl ⟨rfl, scr, g1, g2, g3, ?_⟩))
      apply Array.ext_getElem?
      intro j
      have e1 : V.toArray[j]? = V[j]? := List.getElem?_toArray
      show scr.slots[j]? = V.toArray[j]?
      rw [e1]
      rcases Nat.lt_or_ge j L with hj | hj
      · rw [g5 j hj, hV j hj]
      · rw [List.getElem?_eq_none (l := V) (by omega), Array.getElem?_eq_none (xs := scr.slots) (by omega)]
    · rw [if_neg hab] at hf
      cases hf
  have hrun := law_0 (B := s.heap.size) (ad := ad) (K := fun r g => r = some (.int 1) ∧ g.2.1 ≤ s.heap.size + 601024 ∧ g.2.2 ≤ 7293034) hV hVl hL (fun w N sl h1 h2 => ⟨rfl, h1, h2⟩) hw0 hbl ⟨fun i j hi hj h => hE.2 i j hi hj h, rfl⟩ had
  obtain ⟨r, σf, ⟨rfl, k1, k2⟩, hwp⟩ := x_WP_det hrun
  rw [lg_entry_eq]
  have hL0 : x_ls _ (x_in 7 ([.ref b] : List Value)) := x_ls_in (n := 7) (show (1 : Nat) ≤ 7 by decide)
  have Kb := (x_body (l := l) (e := e) (below := below) (R := room_1) (ini := false) F (vcL rfl) (vsL rfl) (vfL rfl) (x_new_of nwLw_ok rfl) (vaL rfl) (vL_law ⟨emk_mono l D cA, x_mkCW hfl⟩) (show (11 : Nat) ≤ 11 by decide) (show (386 : Nat) ≤ 386 by decide) (fun h => by cases h) hr hlocks (σ0 := (w0, s.heap.size, 0)) (σf := σf) (show σf.2.1 - s.heap.size ≤ 601024 by omega) (show σf.2.2 - 0 ≤ 7293034 by omega) hwp).2 _ s.heap [] hml.symm hL0 hok va_S.rf (Nat.le_refl _) (Nat.le_refl _)
  rw [Nat.sub_self, Nat.sub_self] at Kb
  intro T hTh X
  obtain ⟨t, a1, o, a2, a3, ⟨rfl, -, -⟩, LL, ⟨a4, a5, a6⟩, a7⟩ := Kb T hTh X
  refine ⟨t, a1, _, a2, a3, rfl, a4, a5, a6.weaken (fun y hy hlt => ?_) (show σf.2.1 - s.heap.size ≤ 601024 by omega) (show σf.2.2 - 0 ≤ 7293034 by omega)⟩
  exact absurd hlt (Nat.not_lt.mpr (a7 y hy))
