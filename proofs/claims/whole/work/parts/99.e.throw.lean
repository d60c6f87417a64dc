/-! THE THROW: its words hold wherever the law comes; the law's catch -/
def x_rd (w : Cond) : Bool := match w with
  | .laysStatic _ _ _ => true
  | .isRef (.static _ _ _) => true
  | c => c.tabsOnly
set_option maxRecDepth 20000 in
theorem x_rd_ow : x_ow.all x_rd = true := by decide +kernel
theorem x_rd_use {s U : State} {A A' : Array Value} (hW : s.WarmedH U.vm) (hk : ∀ (q : Nat) (c : Cell), s.heap[q]? = some c → U.heap[q]? = some c) (w : Cond) (hw : x_rd w = true) (h : w.before A s = true) : w.before A' U = true := by
  unfold x_rd at hw
  split at hw
  · obtain ⟨c, k, i, f, a, cell, h1, h2, h3, h4, h5, h6, h7, h8, h9⟩ := Cond.laysStatic_spec h
    obtain ⟨k', hf, he⟩ := State.fieldFound?_setVm hW.alike h2
    exact Cond.laysStatic_of (s := U) (by rw [hW.alike.findClass]; exact h1) hf h3 (by rw [he]; exact h4) (hk a cell h5) h6 h7 h8 (by rw [he]; exact h9)
  · rename_i C n d
    cases hv : (Term.static C n d).eval A s none [] s with
    | none => simp [Cond.before, Cond.holds, Cond.value, hv] at h
    | some v =>
      cases hf : s.fieldFound? C n d with
      | none => simp [Term.eval, State.fieldNamed?, hf] at hv
      | some q =>
        obtain ⟨cf, k, i, f⟩ := q
        obtain ⟨g1, a, cell, g2, g3, g4, g5⟩ := Term.static_spec hf hv
        obtain ⟨k', hf', he⟩ := State.fieldFound?_setVm hW.alike hf
        have hf'' : U.fieldFound? C n d = some (cf, k', i, f) := hf'
        have ha : k'.statics = some a := by rw [he]; exact g2
        have g6 : cell.vm.isStatics = true := by
          cases hi : cell.vm.isStatics with
          | true => rfl
          | false => simp [Term.eval, State.fieldNamed?, hf, g1, g2, g3, hi] at hv
        have hv' : (Term.static C n d).eval A' U none [] U = some v := by
          simp [Term.eval, State.fieldNamed?, hf'', g1, ha, hk a cell g3, g6, g5]
        simp only [Cond.before, Cond.holds, Cond.value, hv, hv'] at h ⊢
        exact h
  · have h2 := Cond.tabsOnly_warm (args' := A') (T := U) hW _ hw h
    rwa [show U.setVm U.vm = U from by cases U; rfl] at h2
theorem x_thr_use {B : Nat} {U : State} (h : x_thr B U U.heap) : (∀ w ∈ x_ow, ∀ A : Array Value, w.before A U = true) ∧ ∃ a, vk_R RX7 169 "no such page or which" a U := by
  obtain ⟨s0, A0, a, h1, h2, h3, h4, h5⟩ := h
  refine ⟨fun w hw A => x_rd_use h2 (fun q c hq => ?_) w (List.all_eq_true.mp x_rd_ow w hw) (h4 w hw), a, h5.warm h2⟩
  rw [h3 q (Array.getElem?_eq_some_iff.mp hq).1]
  exact hq
theorem x_tk_thr {D : va_G} {cA ad : Nat → Nat} {B : Nat} {U : State} {H : Heap} (h : x_tk D cA ad B U H) : x_thr B U H := h.2.2.2.2.2
/-- the search of the law's one handler, its class resolved on the way -/
def x_FT (e : Env) (s : State) (f : JFrame) (a : Addr) (h : Handler) (vm' : Vm) : Prop := ∀ (Q : Handler → Pre) (E : CtlPost) (d : Bool) (acts : List Action), wp (findHandler f a) Q E e d acts s ↔ Q h d acts (s.setVm vm')
theorem x_FT_one {e : Env} {s : State} {f : JFrame} {a : Addr} {meth : Method} {code : Code} {x : ExceptionTableEntry} {k : ClassId} {cell : Cell} (hm : s.vm.method? f.method = some meth) (hc : meth.code = some code) (ht : code.exceptionTable.toList = [x]) (hx : covers x f.pc = true) (h0 : x.catchType ≠ 0)
    (hl : s.vm.ClassLinks e.platform f.method.cls x.catchType k) (hcell : s.heap[a]? = some cell) (hobj : ∀ j, cell.vm ≠ .statics j) (hk1 : ∃ j, s.vm.classes[cell.cls]? = some j) (hk2 : ∃ j, s.vm.classes[k]? = some j) (hfit : s.vm.assignable cell.cls k = true) : x_FT e s f a (.found x.handlerPc) (s.vm.noted f.method.cls x.catchType (.cls k)) := by
  intro Q E d acts
  rw [Jvm.W.findHandler_eq hm hc, ht]
  obtain ⟨g1, g2⟩ := (resolveClass_links e.toSetting hl).op (op := VmOp.resolveClass f.method.cls x.catchType) rfl
  have hal : s.vm.Alike (s.vm.noted f.method.cls x.catchType (.cls k)) := (Vm.Alike.refl s.vm).noted _ _ _
  obtain ⟨j1, hj1⟩ := hk1
  obtain ⟨j2, hj2⟩ := hk2
  obtain ⟨i1, hi1, -⟩ := hal.2.2 _ _ hj1
  obtain ⟨i2, hi2, -⟩ := hal.2.2 _ _ hj2
  have hf : (s.vm.noted f.method.cls x.catchType (.cls k)).assignable cell.cls k = true := by rw [hal.assignable]; exact hfit
  simp only [covers] at hx
  simp [findHandler.go, hx, h0, g1, g2, hcell, hobj, hi1, hi2, hf, VmOp.dirties, VmOp.acts]
theorem x_step_throw {e : Env} {s : State} {a : Addr} {f : JFrame} {r : List Frame} {pc : Nat} {vm' : Vm} (h : x_FT e s f a (.found pc) vm') : (stepThrowing e s a (.java f :: r)).Is ((s.setVm vm').setFrames (.java { f with pc := pc, stack := [.ref a] } :: r)) [] := by
  simp only [stepThrowing, searchFrame, vmDo]
  generalize hr : Sem.go _ e false [] s = res
  obtain ⟨as, rfl, ha⟩ := Sem.eq_ok_of hr (a := Handler.found pc) (s' := s.setVm vm') (acts' := []) (by simp [h _ _ _ _])
  exact ⟨rfl, ha⟩
theorem x_to_catch {tb : Tables} {e : Env} {s target : State} {g : JFrame} {c : Code} {below : List Frame} {a : Addr} (h : At s g.method c below) {pc : Nat} {vm' : Vm} (hf : x_FT e ((s.setTop g).pushFrame (.throwing a)) g a (.found pc) vm') (hrest : Steps tb e below ((s.setVm vm').setTop { g with pc := pc, stack := [.ref a] }) target) : Steps tb e below ((s.setTop g).pushFrame (.throwing a)) target := by
  obtain ⟨hgo, hw⟩ := h.throwing a
  refine Steps.head hgo hw ?_
  rw [stepThread_throwing (frames_entered h.top _), (x_step_throw (s := (s.setTop g).pushFrame (.throwing a)) hf).1]
  obtain ⟨g0, hg⟩ := Option.isSome_iff_exists.mp h.top
  obtain ⟨r, hr⟩ := State.topJava?_eq_some.mp hg
  have e1 : ∀ (u : State) (F G : List Frame), ((u.setFrames F).setVm vm').setFrames G = (u.setVm vm').setFrames G := fun u F G => by
    rw [show (u.setFrames F).setVm vm' = (u.setVm vm').setFrames F from rfl, State.setFrames_setFrames]
  have hr' : (s.setVm vm').frames = .java g0 :: r := hr
  rw [State.setTop_of_frames _ hr'] at hrest
  rw [hr, List.tail_cons, State.pushFrame, e1, State.setTop_of_frames _ hr, e1]
  exact hrest
section XTH
variable {p : Program} {l : Launch} {e : Env} {R : Room} {s : State} {m : MethodId} {args : Array Value} {below : List Frame} {meth : Method} {c : Code} {T : State} {locs : List Loc} {cells slots : Nat}
theorem x_caught (X : Stand p l e R s m args below meth c T locs cells slots) {a : Addr} {g : JFrame} (hg : g.method = m) {own name : String} (hown : s.vm.findClass own = some m.cls) {x : ExceptionTableEntry} (ht : c.exceptionTable.toList = [x]) (hx : covers x g.pc = true) (h0 : x.catchType ≠ 0)
    (hlink : (Cond.classLink own x.catchType name).before args s = true) {k : ClassId} {cell : Cell} (hk : s.vm.findClass name = some k) (hcell : T.heap[a]? = some cell) (hobj : cell.vm = .none) (hfit : s.vm.assignable cell.cls k = true) :
    ∃ vm', Stand p l e R s m args below meth c (T.setVm vm') locs cells slots ∧ ∀ target, Steps p.tables e below ((T.setVm vm').setTop { g with pc := x.handlerPc, stack := [.ref a] }) target → Steps p.tables e below ((T.setTop g).pushFrame (.throwing a)) target := by
  have hpl : e.platform.magicAccessors = ({} : Platform).magicAccessors := by rw [X.admits.platform]
  obtain ⟨k', hk', hcl⟩ := Cond.classLink_spec hown hlink e.platform hpl
  cases hk.symm.trans hk'
  obtain ⟨dk, _, _, kt, hd, _, _, _, _, hkt, _, hopen⟩ := hcl.here
  have hW : s.WarmedH (T.vm.noted m.cls x.catchType (.cls k)) := X.warmed.noted hd hopen (State.rightAt_cls hcl)
  obtain ⟨kt', hkt', -⟩ := X.warmed.alike.2.2 _ _ hkt
  have hfit' : T.vm.assignable cell.cls k = true := by rw [X.warmed.alike.assignable]; exact hfit
  refine ⟨_, X.noted hW, fun target hrest => ?_⟩
  subst hg
  exact x_to_catch X.here (x_FT_one (s := (T.setTop g).pushFrame (.throwing a)) (meth := meth) (code := c) X.method' X.code ht hx h0 (k := k) (cell := cell) (X.warmed.classLinks hcl) hcell (fun j h => by rw [hobj] at h; cases h) (Vm.classAt_of_assignable hfit' ⟨kt', hkt'⟩) ⟨kt', hkt'⟩ hfit') hrest
end XTH
