theorem x_T2 {l : Launch} (hfl : l.flags = flags0) {D : va_G} {cA ad : Nat → Nat} {B : Nat} {vs : List Value} {σ σ' : xW} {r : Option Value} (hE : emk B ad vs σ r σ') :
    Met l yL_marked (Cond.codeWith yL_marked cL_marked 5 (some .int) [(0, 10, 13, 13)] :: xT) (x_rm 8 143 σ σ') (x_Pc D cA ad B vs σ) (x_Qc D cA B r σ') (σ'.2.1 - σ.2.1) (σ'.2.2 - σ.2.2) (fun q => B ≤ q) := by
  have hmono := emk_mono l D cA _ _ _ _ hE
  obtain ⟨x, pp, qq, o, fs, rfl, h7, hroad⟩ := hE
  refine va_MetW (cc := cL_marked) (maxL := 5) (ret := some .int) (hh := [(0, 10, 13, 13)]) (by decide +kernel) rfl ?_
  intro p e s m args below meth c s₁ Bd hml hP
  obtain ⟨rfl, hok, hT, hB⟩ := hP
  have hts := atoms_spec (ws := Cond.codeWith yL_marked cL_marked 5 (some .int) [(0, 10, 13, 13)] :: xT) Bd.pre
  have hts' : ∀ w ∈ xT, w.before _ s = true := fun w hw => hts w (List.mem_cons_of_mem _ hw)
  have hown : s.vm.findClass RL = some m.cls := findClass_of_methodNamed Bd.named
  have F : x_fx p s m ([.ref x, .int pp, .int qq, .ref o] : List Value).toArray c cL_marked RL D cA ad B := ⟨Bd.exec, Bd.bytes, hown, hts', hT, hB⟩
  have hL0 : x_ls _ (x_in 5 ([.ref x, .int pp, .int qq, .ref o] : List Value)) := x_ls_in (n := 5) (show (4 : Nat) ≤ 5 by decide)
  have hcal : xv_cal l D cA ad B RL 3 66 (cxMk B ad) := x_cal_Mk
  rw [lg_entry_eq]
  rcases hroad with ⟨v, σ1, y, h1, ho, hBo, rfl, rfl⟩ | ⟨hth, rfl, rfl⟩
  · have K := (x_body (l := l) (e := e) (below := below) (R := (headSpec (Cond.codeWith yL_marked cL_marked 5 (some .int) [(0, 10, 13, 13)] :: xT) (x_rm 8 143 σ (x_up σ1.1 o (101, [.long v.toInt64]), σ1.2))).room) (ini := false) F x_Mk_cst x_Mk_sta x_Mk_fld x_Mk_new x_Mk_anew hcal (show (3 : Nat) ≤ 8 by decide) (show (66 : Nat) ≤ 143 by decide) (fun h => by cases h) Bd.returns Bd.notSynchronized (σ0 := σ) (σf := (x_up σ1.1 o (101, [.long v.toInt64]), σ1.2)) (Nat.le_refl _) (Nat.le_refl _) (x_mk_ok h7 h1 ho hBo)).2 _ s.heap [] hml.symm hL0 hok va_S.rf (Nat.le_refl _) (Nat.le_refl _)
    rw [Nat.sub_self, Nat.sub_self] at K
    exact K
  · have go : ∀ {i : Instr} {n pc pc' : Nat} {L : Array Slot} {ls st st' : List Value}, decode cL_marked pc = .ok (i, n) → x_len i n → ls.length = 5 → x_ls L ls → (x_pure (cxMk B ad) i st st' ∨ x_load i ls st st') → pc' = pc + n → 
        W p l e (x_rm 8 143 σ (σ.1, σ.2.1 + 1, σ.2.2 + 6)) s m ([.ref x, .int pp, .int qq, .ref o] : List Value).toArray below meth c s.heap [] 0 0 (MQ below (x_Qc D cA B (some (.int 1)) (σ.1, σ.2.1 + 1, σ.2.2 + 6)) ([.ref x, .int pp, .int qq, .ref o] : List Value).toArray s (σ.2.1 + 1 - σ.2.1) (σ.2.2 + 6 - σ.2.2) (fun q => B ≤ q)) (F0 m pc' L st') →
        W p l e (x_rm 8 143 σ (σ.1, σ.2.1 + 1, σ.2.2 + 6)) s m ([.ref x, .int pp, .int qq, .ref o] : List Value).toArray below meth c s.heap [] 0 0 (MQ below (x_Qc D cA B (some (.int 1)) (σ.1, σ.2.1 + 1, σ.2.2 + 6)) ([.ref x, .int pp, .int qq, .ref o] : List Value).toArray s (σ.2.1 + 1 - σ.2.1) (σ.2.2 + 6 - σ.2.2) (fun q => B ≤ q)) (F0 m pc L st) := by
      intro i n pc pc' L ls st st' d hl hn hL hi hpc k
      subst hpc
      rcases hi with hi | hi
      · exact xs_pure F x_Mk_cst x_Mk_sta va_S.rf d hl hi k
      · exact xs_load F hL d hl hi k
    refine go (st' := [.ref o]) dL_marked_0 rfl rfl hL0 (Or.inr ⟨.ref o, rfl, Or.inr ⟨o, rfl⟩, rfl⟩) rfl ?_
    refine go (st' := [.int 0, .ref o]) dL_marked_1 rfl rfl hL0 (Or.inl rfl) rfl ?_
    refine go (st' := [.ref x, .int 0, .ref o]) dL_marked_2 rfl rfl hL0 (Or.inr ⟨.ref x, rfl, Or.inr ⟨x, rfl⟩, rfl⟩) rfl ?_
    refine go (st' := [.int pp, .ref x, .int 0, .ref o]) dL_marked_3 rfl rfl hL0 (Or.inr ⟨pp, rfl, rfl⟩) rfl ?_
    refine go (st' := [.int qq, .int pp, .ref x, .int 0, .ref o]) dL_marked_4 rfl rfl hL0 (Or.inr ⟨qq, rfl, rfl⟩) rfl ?_
    intro T hTh X
    have hlen : ∀ sig, parseMethodDescriptor yX7_marked.desc = some sig → ([.int pp, .int qq] : List Value).length = sig.parameters.length := by
      intro sig hs
      have h2 : (parseMethodDescriptor yX7_marked.desc).map (fun d => d.parameters.length) = some 2 := by decide +kernel
      rw [hs] at h2
      exact (Option.some.inj h2).symm
    have hrec := va_recv (tys := []) hT.1 (xm_one (xm_obj (hok.1 x _ h7) (by decide))) (ci := 7) (q := (RX7, TX7, 11)) rfl (q0 := 0) rfl
    obtain ⟨cellB, r1, r2, r3⟩ := hrec
    obtain ⟨T', a, ce, X', z1, z2, z3, z4, z5, z6, st⟩ := x_callT X Bd.exec (own := RL) (C := RX7) (index := 7) (y := yX7_marked) (bytes := cX7_marked) (maxL := 4) (ret := some .int) hown (hts' _ xt4) (hts' _ xt5) (hts' _ xt6) (pay_in hts' (x_GI xt3)) (hts' _ xw12) ⟨by decide +kernel, by decide +kernel⟩ (x_T1 (D := D) (cA := cA) (B := B) hfl h7 hth) x_blind
      (show (7 + 1 : Nat) ≤ 8 by decide) (show (8 + (4 + 11) + 120 : Nat) ≤ 143 by decide) (show 0 + 1 ≤ σ.2.1 + 1 - σ.2.1 by omega) (show 0 + 6 ≤ σ.2.2 + 6 - σ.2.2 by omega) (b := x) (cellB := cellB) (by rw [hTh]; exact r1) r2 r3
      (g := F0 m 5 _ [.int qq, .int pp, .ref x, .int 0, .ref o]) rfl ((hL0.1 : _ = 5).trans hml.symm) (argsL := [.int pp, .int qq]) (rest := [.int 0, .ref o]) hlen rfl (show (2 * 0 + 2 : Nat) ≤ 8 by decide) (by rw [Bd.bytes]; exact dL_marked_5) (fun vm₁ hW₁ => x_pre F hok va_S.rf (T.setVm vm₁) hTh hW₁)
    obtain ⟨m9, meth9, c9, e1, e2, e3, -, -, e4, -⟩ := Cond.codeWith_spec (hts _ List.mem_cons_self)
    cases Bd.named.symm.trans e1
    cases Bd.method.symm.trans e2
    cases X.code.symm.trans e3
    obtain ⟨xe, hxe⟩ : ∃ xe, c.exceptionTable.toList = [xe] := List.length_eq_one_iff.mp (by rw [← List.length_map (f := fun (h : ExceptionTableEntry) => (h.startPc, h.endPc, h.handlerPc, h.catchType)), e4]; rfl)
    rw [hxe] at e4
    simp only [List.map_cons, List.map_nil, List.cons.injEq, Prod.mk.injEq, and_true] at e4
    obtain ⟨y1, y2, y3, y4⟩ := e4
    obtain ⟨vm', X2, st2⟩ := x_caught X' (g := F0 m 5 _ [.int 0, .ref o]) (a := a) rfl hown hxe (by simp [covers, y1, y2]) (by rw [y4]; decide) (by rw [y4]; exact hts' _ xt8) z5 z3 z4 z6
    have hsz : T.heap.size = s.heap.size := by rw [hTh]
    have hok2 : x_ok D cA B s (σ.1, σ.2.1 + 1, σ.2.2 + 6) T'.heap := by
      refine ⟨fun b f hb => x_at_kept (hok.1 b f hb) ?_, ?_⟩
      · rw [z2 b (by rw [hsz]; exact x_at_lt (hok.1 b f hb)), hTh]
      · rw [z1, hsz, hok.2]
    have hS2 : va_S (fun q => B ≤ q) s.heap T'.heap [] := ⟨(by rw [z1, hsz]; exact Nat.le_succ _), fun q hq _ => (by rw [z2 q (by rw [hsz]; exact hq), hTh]), fun q hq => by cases hq⟩
    have K := (x_body (l := l) (e := e) (below := below) (R := x_rm 8 143 σ (σ.1, σ.2.1 + 1, σ.2.2 + 6)) (ini := false) F x_Mk_cst x_Mk_sta x_Mk_fld x_Mk_new x_Mk_anew hcal (show (3 : Nat) ≤ 8 by decide) (show (66 : Nat) ≤ 143 by decide) (fun h => by cases h) Bd.returns Bd.notSynchronized (σ0 := σ) (σf := (σ.1, σ.2.1 + 1, σ.2.2 + 6)) (Nat.le_refl _) (Nat.le_refl _) (x_mk_13 (a := a) (v0 := .ref x) (v1 := .int pp) (v2 := .int qq) (v3 := .ref o) rfl)).2 _ T'.heap [] hml.symm hL0 hok2 hS2 (Nat.le_succ _) (Nat.le_add_right _ _)
    obtain ⟨t, a1, b1⟩ := K (T'.setVm vm') rfl (by
      have q1 : σ.2.1 + 1 - σ.2.1 = 0 + 1 := by omega
      have q2 : σ.2.2 + 6 - σ.2.2 = 0 + 6 := by omega
      show Stand p l e _ s m _ below meth c (T'.setVm vm') [] (σ.2.1 + 1 - σ.2.1) (σ.2.2 + 6 - σ.2.2)
      rw [q1, q2]
      exact X2)
    refine ⟨t, st t (st2 t ?_), b1⟩
    rw [y3]
    exact a1
