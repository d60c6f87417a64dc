/-! A CALL THAT THROWS; THE LAW'S OWN marked, ON BOTH ITS ROADS -/
theorem x_cell_same {A C : Cell} (h1 : A = { C with slots := A.slots }) (h2 : ∀ i : Nat, A.slots[i]? = C.slots[i]?) : A = C := by
  have h3 : A.slots = C.slots := Array.ext_getElem? h2
  rw [h1, h3]
section XCT
variable {p : Program} {l : Launch} {e : Env} {R : Room} {s : State} {m : MethodId} {args : Array Value} {below : List Frame} {meth : Method} {c : Code} {T : State} {locs : List Loc} {cells slots : Nat}
theorem x_callT (X : Stand p l e R s m args below meth c T locs cells slots) (hexec : p.tables.exec = Jvm.exec) {own C : String} {index : Nat} {y : MethodName} {bytes : ByteArray} {maxL : Nat} {ret : Option FieldType}
    (hown : s.vm.findClass own = some m.cls) (hlink : (Cond.methodLink own index y).before args s = true) (hinst : (Cond.instanceMethod y).before args s = true) (hsel : (Cond.selects C y y).before args s = true)
    (hws : ∀ w ∈ Cond.code y bytes maxL ret :: xT, ∀ (a' : Array Value) (U : State), s.WarmedH U.vm → w.before a' U = true) (hini : (Cond.initialized y.cls).before args s = true) (hy : y.cls ≠ "java/lang/invoke/MethodHandle" ∧ y.cls ≠ "java/lang/invoke/VarHandle")
    {Pc : Array Value → State → Prop} (hM : MetFree l y (headSpec (Cond.code y bytes maxL ret :: xT) x_rT) Pc (fun _ _ _ _ _ => True) x_TQ) (hblind : FrameBlind Pc)
    (hfr : 7 + 1 ≤ R.frames) (hlo : 8 + (maxL + 11) + 120 ≤ R.locals) (hc1 : cells + 1 ≤ R.cells) (hc2 : slots + 6 ≤ R.slots)
    {b : Addr} {cellB : Cell} (hcell : T.heap[b]? = some cellB) (hobj : cellB.vm.isStatics = false) (hcls : s.vm.findClass C = some cellB.cls)
    {g : JFrame} (hg : g.method = m) (hsize : g.locals.size = c.maxLocals) {argsL rest : List Value} (hlen : ∀ sig, parseMethodDescriptor y.desc = some sig → argsL.length = sig.parameters.length)
    (hstack : g.stack = argsL.reverse ++ .ref b :: rest) (hW : 2 * g.monitorRoom + (rest.map fun v => v.category).sum ≤ 8) (hdg : decode c.code g.pc = .ok (.invokevirtual index, 3))
    (hPc : ∀ vm₁, s.WarmedH vm₁ → Pc (Value.ref b :: argsL).toArray (T.setVm vm₁)) :
    ∃ (T' : State) (a : Addr) (ce : Cell), Stand p l e R s m args below meth c T' locs (cells + 1) (slots + 6) ∧ T'.heap.size = T.heap.size + 1 ∧ (∀ q : Nat, q < T.heap.size → T'.heap[q]? = T.heap[q]?) ∧ T'.heap[a]? = some ce ∧ ce.vm = .none ∧ s.vm.findClass RJx00060 = some ce.cls ∧ s.vm.assignable ce.cls ce.cls = true ∧
      ∀ target, Steps p.tables e below ((T'.setTop { g with stack := rest }).pushFrame (.throwing a)) target → Steps p.tables e below (T.setTop g) target := by
  have hcode := hws _ List.mem_cons_self args s (State.WarmedH.refl s)
  obtain ⟨mk, methM, hnamed, hmethM, hstM, habM⟩ := Cond.instanceMethod_spec hinst
  obtain ⟨methM', cM, hmethM', -, -, -, -, -, -, hsigM⟩ := Cond.code_spec hnamed hcode
  cases hmethM.symm.trans hmethM'
  obtain ⟨c2, r2, m2, q1, q2, q3, q4, kP, hkP, hkPi⟩ := Cond.selects_spec hsel
  cases hcls.symm.trans q1
  cases (State.methodFound?_of_named hnamed hy).symm.trans q2
  cases hnamed.symm.trans q3
  have hselP : selectMethod e.platform s.vm cellB.cls mk = .method mk := by rw [Launch.admits_selectMethod X.admits]; exact q4
  obtain ⟨vm₁, X₁, hstep₁⟩ := X.invokevirtual hexec hown hlink hnamed hmethM hstM hkP hkPi hy (a := b) (cell := cellB) hcell
    (fun z h => by rw [h] at hobj; cases hobj) hselP hmethM habM hkP hkPi (g := g) hg (argsL := argsL) (rest := rest) (hlen _ hsigM) hstack hdg
  have hn := X₁.named hnamed
  obtain ⟨methY, cY, hmY, hcY, -, hlY, -⟩ := Cond.code_spec hn (hws _ List.mem_cons_self (Value.ref b :: argsL).toArray _ X₁.warmed)
  obtain ⟨kY, hkY, -⟩ := className_of_methodNamed hn
  have hiniU : (Cond.initialized y.cls).before (Value.ref b :: argsL).toArray (T.setVm vm₁) = true := word_at X₁.warmed (Or.inl (by first | rfl | simp [Cond.onTables, Cond.keeps, Cond.steady])) hini
  have hinitY : kY.init = .initialized := Cond.initialized_spec (findClass_of_methodNamed hn) hkY hiniU
  have h : At (T.setVm vm₁) ({ g with stack := rest } : JFrame).method c below := by
    show At (T.setVm vm₁) g.method c below
    rw [hg]; exact X₁.here
  have happ : (headSpec (Cond.code y bytes maxL ret :: xT) x_rT).appliesLoose y e.platform ((T.setVm vm₁).calling { g with stack := rest } mk (Value.ref b :: argsL).toArray) = true :=
    Spec.appliesLoose_calling (g := { g with stack := rest }) h hdg hn hkY hinitY
      (X₁.room_calling (g := { g with stack := rest }) (R' := x_rT) hsize hmY hcY hfr (by
        show 2 * g.monitorRoom + (rest.map fun v => v.category).sum + (cY.maxLocals + 11) + 120 ≤ R.locals
        rw [hlY]; omega) hc1 hc2) (atoms_intro fun w hw => hws w hw _ _ X₁.warmed)
  have hfr2 : ((T.setVm vm₁).setTop { g with stack := rest }).frames = [.java { g with stack := rest }] ++ below := by
    rw [State.frames_setTop' _ h.top, X₁.tail]; rfl
  obtain ⟨o, s₂, hsteps, -, hend, a, ce, rfl, hW2, hsame, hz, hce, hvm, hcl, hself⟩ := Steps.callFree hM p X₁.admits X₁.cas X₁.clock (acts := []) hfr2 happ (hblind _ _ _ _ (hPc vm₁ X₁.warmed)) trivial
  rw [hfr2] at hend
  obtain ⟨T', X', -, hsT, ht⟩ := X₁.outOfThrown (g := { g with stack := rest }) hg hend hW2 hsame
  have hheap : s₂.heap = T'.heap := by rw [ht]; exact throwing_heap _ _ _
  rw [List.append_nil] at X'
  refine ⟨T', a, ce, X', by rw [← hheap]; exact hz, fun q hq => ?_, by rw [← hheap]; exact hce, hvm, ?_, ?_, fun target hr => hstep₁ _ fun acts => by rw [doInvoke_state]; exact hsteps.trans (by rw [ht]; exact hr)⟩
  · have hq' : T.heap[q]? = some T.heap[q] := Array.getElem?_eq_getElem hq
    obtain ⟨c', k1, k2, k3, k4⟩ := hsT.2.2.2.2.2 q T.heap[q] hq'
    have k5 : c' = T.heap[q] := x_cell_same k2 (fun i => k4 i (by simp))
    rw [hq', ← k5]
    exact k1
  · rw [← X₁.warmed.alike.findClass]; exact hcl
  · rw [← X₁.warmed.alike.assignable]; exact hself
end XCT
