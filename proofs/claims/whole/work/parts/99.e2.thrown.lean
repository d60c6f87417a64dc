/-! THE CLASS'S marked, WHERE IT THROWS -/
theorem x_calMk {l : Launch} {D : va_G} {cA ad : Nat → Nat} {B : Nat} : xv_cal l D cA ad B RX7 2 43 (cxX7_marked B ad) := by
  intro k kd n E hk
  have hm : (k, kd, n, E) ∈ caX7_marked B ad := x_look hk
  simp only [caX7_marked, List.mem_cons, List.not_mem_nil, or_false, Prod.mk.injEq] at hm
  rcases hm with ⟨rfl, rfl, rfl, rfl⟩ | ⟨rfl, rfl, rfl, rfl⟩
  · exact x_cwV (t := 7) mX7_endedPage rfl (by decide) rfl xw103 xw104 xw105 xw12 xw102 ⟨by decide +kernel, by decide +kernel, by decide +kernel⟩ ⟨by decide, by decide⟩
  · exact x_cwS mX7_within xw72 xw73 xw12 xw71 ⟨by decide +kernel, by decide +kernel, by decide +kernel⟩ ⟨by decide, by decide⟩
set_option maxRecDepth 20000 in
theorem xt0 : Cond.classLink RX7 167 RJx00060 ∈ xT := xT_in (by decide +kernel) rfl
set_option maxRecDepth 20000 in
theorem xt1 : Cond.instantiable RJx00060 6 ∈ xT := xT_in (by decide +kernel) rfl
set_option maxRecDepth 20000 in
theorem xt2 : Cond.initialized RJx00060 ∈ xT := xT_in (by decide +kernel) rfl
def x_TQ : Array Value → State → Outcome → State → Prop := fun _ st o t => ∃ (a : Addr) (ce : Cell), o = .threw a ∧ st.WarmedH t.vm ∧ st.sameButNew ({ t with vm := st.vm } : State) [] 1 6 ∧ t.heap.size = st.heap.size + 1 ∧ t.heap[a]? = some ce ∧ ce.vm = .none ∧ st.vm.findClass RJx00060 = some ce.cls ∧ st.vm.assignable ce.cls ce.cls = true
def x_rT : Room := { frames := 7, cells := 1, slots := 6, locals := 120 }
theorem x_T1 {l : Launch} (hfl : l.flags = flags0) {D : va_G} {cA ad : Nat → Nat} {B x : Nat} {pp qq : Int32} {fs : List Value} {σ : xW} (h7 : σ.1 x = some (7, fs)) (ht : thr ad x pp qq σ) :
    MetFree l yX7_marked (headSpec (Cond.code yX7_marked cX7_marked 4 (some .int) :: xT) x_rT) (x_Pc D cA ad B [.ref x, .int pp, .int qq] σ) (fun _ _ _ _ _ => True) x_TQ := by
  refine MetFree.of_bodyS (code := cX7_marked) (maxLocals := 4) (ret := some .int) pnX7 ?_ ?_
  · intro args s m h hn
    obtain ⟨meth, c, h1, h2, h3, h4, h5, h6, -, -⟩ := Cond.code_spec hn (atoms_spec (ws := Cond.code yX7_marked cX7_marked 4 (some .int) :: xT) h _ List.mem_cons_self)
    exact ⟨meth, c, h1, h2, h3, h4, h5, h6⟩
  intro p e s m args below meth c s₁ Bd hml hP _
  obtain ⟨rfl, hok, hT, hB⟩ := hP
  have hts := atoms_spec (ws := Cond.code yX7_marked cX7_marked 4 (some .int) :: xT) Bd.pre
  have hts' : ∀ w ∈ xT, w.before _ s = true := fun w hw => hts w (List.mem_cons_of_mem _ hw)
  have hown : s.vm.findClass RX7 = some m.cls := findClass_of_methodNamed Bd.named
  obtain ⟨hth, sa, hstr⟩ := x_thr_use (x_tk_thr hT)
  have hok1 := x_ok_narrow hok hB
  have F : x_fx p s m ([.ref x, .int pp, .int qq] : List Value).toArray c cX7_marked RX7 D cA ad s.heap.size := ⟨Bd.exec, Bd.bytes, hown, hts', x_tk_narrow hT hB, Nat.le_refl _⟩
  have hnh : c.exceptionTable.isEmpty = true := BodyLoose.noHandlers Bd (hts _ List.mem_cons_self)
  have hout : ∀ q, ∀ z ∈ c.exceptionTable.toList, covers z q = false := by
    intro q z hz
    have : c.exceptionTable.toList = [] := by simpa using hnh
    rw [this] at hz
    cases hz
  obtain ⟨cC, kC0, hcC, -⟩ := Cond.instantiable_spec (hts' _ xt1)
  have K19 : ∀ (L : Array Slot) (H : Heap) (locs : List Loc), L.size = 4 → x_ok D cA s.heap.size s σ H → va_S (fun q => s.heap.size ≤ q) s.heap H locs →
      W p l e x_rT s m ([.ref x, .int pp, .int qq] : List Value).toArray below meth c H locs 0 0 (fun t => ∃ o, t.status = .running ∧ Ended t below o ∧ x_TQ ([.ref x, .int pp, .int qq] : List Value).toArray s o t) (F0 m 19 L []) := by
    intro L H locs hL ok S
    have hHs : H.size = s.heap.size := ok.2.trans hok.2.symm
    refine va_forget S.2.2 ?_
    refine W.newcK Bd.exec Bd.bytes hown (hts' _ xt0) (hts' _ xt1) (hts' _ xt2) rfl dX7_marked_19 (by decide) (by decide) hcC rfl fun H' kC hk hb hz hq => ?_
    refine lv_dup Bd.exec Bd.bytes dX7_marked_22 rfl ?_
    refine va_ldcS Bd.exec Bd.bytes hown hstr dX7_marked_23 ?_
    intro T hT2 X
    have htr : e.platform.stackTraces = false := by
      rw [X.admits.platform]
      show l.stackTraces = false
      unfold Launch.stackTraces
      rw [hfl]
      decide
    obtain ⟨U, st, hr, hend, hW, hsame, ce, hce, oc⟩ := X.ctorThrowS Bd.exec htr (own := RX7) (cls := RJx00060) (names := ["java/lang/IndexOutOfBoundsException", "java/lang/RuntimeException", "java/lang/Exception"]) (ic := 171) hown (by decide +kernel) (by decide +kernel) (fun w hw => hth w hw _) (fun z hz => by cases hz) hcC hk
      (a := H.size) (by rw [hT2]; exact hb) (by rw [hHs]; exact Nat.le_refl _) (msg := .ref sa) rfl (g := F0 m 25 L [.ref sa, .ref H.size, .ref H.size]) rfl (by rw [hml]; exact hL) rfl rfl (rest := []) rfl (by rw [Bd.bytes]; exact dX7_marked_25) (by rw [Bd.bytes]; exact dX7_marked_28) (hout _) (by decide) (show (2 * 0 + (1 + 0) + (13 * (3 + 1) + 42) : Nat) ≤ 120 by decide) Bd.notSynchronized
    refine ⟨U, st, .threw H.size, hr, hend, H.size, ce, rfl, hW, hsame, ?_, hce, oc.vm, oc.cls, oc.self⟩
    have h1 := (Array.getElem?_eq_some_iff.mp hce).1
    have h2 := hsame.2.2.1
    have h2 : U.heap.size ≤ s.heap.size + (0 + 1) := h2
    omega
  have go : ∀ {i : Instr} {n pc pc' : Nat} {L : Array Slot} {H : Heap} {locs : List Loc} {ls st ls' st' : List Value}, decode cX7_marked pc = .ok (i, n) → x_len i n → ls.length = 4 → x_ls L ls → x_ok D cA s.heap.size s σ H → va_S (fun q => s.heap.size ≤ q) s.heap H locs → x_i s.heap.size (cxX7_marked s.heap.size ad) i n pc ls st σ pc' ls' st' σ →
      (∀ L' H' locs', x_ls L' ls' → x_ok D cA s.heap.size s σ H' → va_S (fun q => s.heap.size ≤ q) s.heap H' locs' → W p l e x_rT s m ([.ref x, .int pp, .int qq] : List Value).toArray below meth c H' locs' 0 0 (fun t => ∃ o, t.status = .running ∧ Ended t below o ∧ x_TQ ([.ref x, .int pp, .int qq] : List Value).toArray s o t) (F0 m pc' L' st')) →
      W p l e x_rT s m ([.ref x, .int pp, .int qq] : List Value).toArray below meth c H locs 0 0 (fun t => ∃ o, t.status = .running ∧ Ended t below o ∧ x_TQ ([.ref x, .int pp, .int qq] : List Value).toArray s o t) (F0 m pc L st) := by
    intro i n pc pc' L H locs ls st ls' st' d hl hn hL ok S hi k
    refine x_one (ini := false) F (vcX7 rfl) (vsX7 rfl) (vfX7 rfl) (vnX7 rfl) (vaX7 rfl) x_calMk (by decide) (by decide) (fun h => by cases h) (hml.trans hn.symm) d hl hi hL ok S (by rw [Nat.sub_self]; decide) (by rw [Nat.sub_self]; decide) fun L' H' locs' a1 a2 a3 => ?_
    rw [Nat.sub_self, Nat.sub_self]
    exact k L' H' locs' a1 a2 a3
  obtain ⟨pg, he, hpg⟩ := ht
  have K : W p l e x_rT s m ([.ref x, .int pp, .int qq] : List Value).toArray below meth c s.heap [] 0 0 (fun t => ∃ o, t.status = .running ∧ Ended t below o ∧ x_TQ ([.ref x, .int pp, .int qq] : List Value).toArray s o t) (entryFrame m ([.ref x, .int pp, .int qq] : List Value).toArray 4) := by
    rw [lg_entry_eq]
    have hL0 : x_ls _ (x_in 4 ([.ref x, .int pp, .int qq] : List Value)) := x_ls_in (n := 4) (show (3 : Nat) ≤ 4 by decide)
    refine go dX7_marked_0 rfl rfl hL0 hok1 va_S.rf (Or.inr (Or.inl ⟨⟨.ref x, rfl, Or.inr ⟨x, rfl⟩, rfl⟩, rfl, rfl, rfl⟩)) fun L1 H1 l1 a1 b1 c1 => ?_
    refine go dX7_marked_1 rfl rfl a1 b1 c1 (Or.inr (Or.inl ⟨⟨pp, rfl, rfl⟩, rfl, rfl, rfl⟩)) fun L2 H2 l2 a2 b2 c2 => ?_
    refine go (pc' := 5) (ls' := x_in 4 ([.ref x, .int pp, .int qq] : List Value)) (st' := [pg]) dX7_marked_2 rfl rfl a2 b2 c2 (Or.inr (Or.inr (Or.inr (Or.inr (Or.inr ⟨⟨2, x_v 7 (eX7_endedPage s.heap.size ad), some pg, rfl, (show (2 : Nat) ≤ 2 by decide), (show (0 : Nat) ≤ 8 by decide), ⟨⟨x, [.int pp], fs, rfl, h7⟩, he s.heap.size⟩, rfl⟩, rfl, rfl⟩))))) fun L3 H3 l3 a3 b3 c3 => ?_
    have hrv : pg = .null ∨ ∃ b, pg = .ref b := by
      rcases hpg with h | ⟨⟨a, h⟩, -⟩
      · exact Or.inl h
      · exact Or.inr ⟨a, h⟩
    refine go (pc' := 6) (ls' := [.ref x, .int pp, .int qq, pg]) (st' := []) dX7_marked_5 rfl rfl a3 b3 c3 (Or.inr (Or.inr (Or.inl ⟨⟨pg, rfl, hrv, (show (3 : Nat) < 4 by decide), ?_, rfl⟩, rfl, rfl⟩))) fun L4 H4 l4 a4 b4 c4 => ?_
    · intro k v hk hv
      cases hk
      cases hv
      rfl
    refine go (pc' := 7) (ls' := [.ref x, .int pp, .int qq, pg]) (st' := [pg]) dX7_marked_6 rfl rfl a4 b4 c4 (Or.inr (Or.inl ⟨⟨pg, rfl, hrv, rfl⟩, rfl, rfl, rfl⟩)) fun L5 H5 l5 a5 b5 c5 => ?_
    rcases hpg with rfl | ⟨⟨a, rfl⟩, hw⟩
    · exact go (pc' := 19) (st' := []) dX7_marked_7 rfl rfl a5 b5 c5 (Or.inr (Or.inr (Or.inr (Or.inl ⟨⟨.null, 19, rfl, Or.inl rfl, by decide, Or.inl ⟨rfl, rfl⟩⟩, rfl, rfl⟩)))) fun L6 H6 l6 a6 b6 c6 => K19 L6 H6 l6 a6.1 b6 c6
    · refine go (pc' := 10) (st' := []) dX7_marked_7 rfl rfl a5 b5 c5 (Or.inr (Or.inr (Or.inr (Or.inl ⟨⟨.ref a, 19, rfl, Or.inr ⟨a, rfl⟩, by decide, Or.inr ⟨(fun h => by cases h), rfl⟩⟩, rfl, rfl⟩)))) fun L6 H6 l6 a6 b6 c6 => ?_
      refine go (pc' := 11) (st' := [.int qq]) dX7_marked_10 rfl rfl a6 b6 c6 (Or.inr (Or.inl ⟨⟨qq, rfl, rfl⟩, rfl, rfl, rfl⟩)) fun L7 H7 l7 a7 b7 c7 => ?_
      refine go (pc' := 12) (st' := [.int 0, .int qq]) dX7_marked_11 rfl rfl a7 b7 c7 (Or.inl ⟨rfl, rfl, rfl, rfl⟩) fun L8 H8 l8 a8 b8 c8 => ?_
      refine go (pc' := 13) (st' := [.int 2, .int 0, .int qq]) dX7_marked_12 rfl rfl a8 b8 c8 (Or.inl ⟨rfl, rfl, rfl, rfl⟩) fun L9 H9 l9 a9 b9 c9 => ?_
      refine go (pc' := 16) (ls' := [.ref x, .int pp, .int qq, .ref a]) (st' := [.int 0]) dX7_marked_13 rfl rfl a9 b9 c9 (Or.inr (Or.inr (Or.inr (Or.inr (Or.inr ⟨⟨3, eX7_within s.heap.size ad, some (.int 0), rfl, (show (3 : Nat) ≤ 3 by decide), (show (0 : Nat) ≤ 8 by decide), hw s.heap.size, rfl⟩, rfl, rfl⟩))))) fun L10 H10 l10 a10 b10 c10 => ?_
      exact go (pc' := 19) (st' := []) dX7_marked_16 rfl rfl a10 b10 c10 (Or.inr (Or.inr (Or.inr (Or.inl ⟨⟨0, 29, rfl, by decide, Or.inr ⟨fun h => h rfl, rfl⟩⟩, rfl, rfl⟩)))) fun L11 H11 l11 a11 b11 c11 => K19 L11 H11 l11 a11.1 b11 c11
  obtain ⟨t, a1, o, b1, b2, b3⟩ := K s₁ (by rw [Bd.state]; rfl) (Stand.of_body Bd)
  exact ⟨t, o, a1, b1, b2, b3⟩
