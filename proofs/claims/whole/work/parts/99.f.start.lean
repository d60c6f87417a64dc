/-! THE CLAIM OUT OF THE LAW'S RUN OVER WORLDS -/
def R_law : String := "PageBuilderLaw"
def lw_P (b : Addr) (xs : List Int32) (args : Array Value) (s : State) : Prop := args = #[.ref b] ∧ s.IntsAt b xs ∧ xs.length ≤ 2560 ∧ (Jvm.Cond.and given_1 narrow_1).before args s = true
def lw_Q (_ : Array Value) (s : State) (o : Outcome) (t : State) : Prop := o = .returned (some (.int 1)) ∧ Framed s o t [] 601024 7293034
def lw_Z (below : List Frame) (a : Array Value) (s : State) : State → Prop := fun t => ∃ o, t.status = .running ∧ Ended t below o ∧ lw_Q a s o t
def lw_At (p : Program) (s : State) (m : MethodId) (meth : Method) (c : Code) (b L : Nat) (xs : Nat → Int32) : Prop :=
  p.tables.exec = Jvm.exec ∧ c.code = code ∧ meth.sig.returnType = ret ∧ c.maxLocals = 7 ∧ s.vm.findClass R_law = some m.cls ∧ (∀ w ∈ lw_tbl, w.before #[Value.ref b] s = true) ∧ va_X b L xs s s.heap ∧ b < s.heap.size ∧ meth.locks = false ∧ (Jvm.Cond.and given_1 narrow_1).before #[Value.ref b] s = true
section WS
variable {s : State} {A : Array Value}
set_option maxRecDepth 20000 in
theorem ws_inst : ∀ q ∈ vwCl, Cond.instantiable q.1 q.2.2 ∈ lw_tbl := by
  intro q hq
  simp only [vwCl, List.mem_cons, List.not_mem_nil, or_false] at hq
  rcases hq with rfl | rfl | rfl | rfl | rfl | rfl | rfl | rfl | rfl <;> decide +kernel
theorem ws_K (hts : ∀ w ∈ lw_tbl, w.before A s = true) : ∃ D : va_G, va_K D vwCl [] s := by
  have E : ∀ k : Nat, ∃ z : ClassId × (Nat → Nat), ∀ q : vw_C, vwCl[k]? = some q → u_Kn s q.1 q.2.1 q.2.2 z.1 z.2 := by
    intro k
    cases hk : vwCl[k]? with
    | none => exact ⟨(0, fun _ => 0), fun q hq => by cases hq⟩
    | some r =>
      obtain ⟨cC, iS, h⟩ := u_known (C := r.1) (T := r.2.1) (N := r.2.2) (n := r.2.2) (ws := xT) (fun w hw => hts w (xT_tbl w hw)) (x_cls hk).1 (hts _ (ws_inst r (List.mem_of_getElem? hk)))
      exact ⟨(cC, iS), fun q hq => by cases hq; exact h⟩
  exact ⟨(fun k => (Classical.choose (E k)).1, fun k => (Classical.choose (E k)).2), fun k q hq => Classical.choose_spec (E k) q hq, fun k q h => by simp at h⟩
set_option maxRecDepth 20000 in
theorem ws_over : ∀ C ∈ ["PageBuilder$Item", "PageBuilder$InsertClass", "PageBuilder$Page"], Cond.arrayOver (.object C) ∈ lw_tbl := by decide +kernel
theorem ws_AO (hts : ∀ w ∈ lw_tbl, w.before A s = true) : ∀ C ∈ ["PageBuilder$Item", "PageBuilder$InsertClass", "PageBuilder$Page"], va_AO C s := fun C hC => va_AO.of (hts _ (ws_over C hC))
theorem ws_prim (hts : ∀ w ∈ lw_tbl, w.before A s = true) {ty : FieldType} (h : Cond.arrayClass ty ∈ xT) (hn : ∀ C, ty ≠ .object C) : ∃ cA, ArrOfT s cA ty ∧ va_RA s cA ty := by
  obtain ⟨c, k, comp, h1, h2, h3⟩ := Cond.arrayClass_spec (hts _ (xT_tbl _ h))
  refine ⟨c, fun N z => ⟨(fun k h => by cases h), k, h2, comp, h3⟩, ?_⟩
  cases ty with
  | object C => exact absurd rfl (hn C)
  | _ => exact h1
theorem ws_ref (hts : ∀ w ∈ lw_tbl, w.before A s = true) {C : String} (hC : C ∈ ["PageBuilder$Item", "PageBuilder$InsertClass", "PageBuilder$Page"]) : ∃ cA, ArrOfT s cA (.object C) ∧ va_RA s cA (.object C) := by
  obtain ⟨comp, c, k, h1, -, h3, h4, h5⟩ := Cond.arrayOver_spec (hts _ (ws_over C hC))
  exact ⟨c, fun N z => ⟨(fun k h => by cases h), k, h3, comp, h4⟩, k, comp, h3, h4, h1, h5⟩
theorem ws_arr (hts : ∀ w ∈ lw_tbl, w.before A s = true) : ∃ cA : Nat → Nat, ∀ t, 100 ≤ t → t < 106 → ArrOfT s (cA t) (x_ty t) ∧ va_RA s (cA t) (x_ty t) := by
  have E : ∀ t, ∃ cA, 100 ≤ t → t < 106 → ArrOfT s cA (x_ty t) ∧ va_RA s cA (x_ty t) := by
    intro t
    by_cases h : 100 ≤ t ∧ t < 106
    · have ht : t = 100 ∨ t = 101 ∨ t = 102 ∨ t = 103 ∨ t = 104 ∨ t = 105 := by omega
      rcases ht with rfl | rfl | rfl | rfl | rfl | rfl
      · obtain ⟨c, hc⟩ := ws_prim hts x_prim.1 (fun C h => by cases h); exact ⟨c, fun _ _ => hc⟩
      · obtain ⟨c, hc⟩ := ws_prim hts x_prim.2.1 (fun C h => by cases h); exact ⟨c, fun _ _ => hc⟩
      · obtain ⟨c, hc⟩ := ws_prim hts x_prim.2.2 (fun C h => by cases h); exact ⟨c, fun _ _ => hc⟩
      · obtain ⟨c, hc⟩ := ws_ref hts (C := "PageBuilder$Item") (by simp); exact ⟨c, fun _ _ => hc⟩
      · obtain ⟨c, hc⟩ := ws_ref hts (C := "PageBuilder$InsertClass") (by simp); exact ⟨c, fun _ _ => hc⟩
      · obtain ⟨c, hc⟩ := ws_ref hts (C := "PageBuilder$Page") (by simp); exact ⟨c, fun _ _ => hc⟩
    · exact ⟨0, fun h1 h2 => absurd ⟨h1, h2⟩ h⟩
  exact ⟨fun t => Classical.choose (E t), fun t h1 h2 => Classical.choose_spec (E t) h1 h2⟩
theorem ws_nest (hts : ∀ w ∈ lw_tbl, w.before A s = true) : ∀ w ∈ x_nest, va_Nw w s := by
  intro w hw
  unfold x_nest at hw
  obtain ⟨h1, h2⟩ := List.mem_filter.mp hw
  have h3 := hts w h1
  cases w <;> first | exact va_Nw.of rfl h3 | (simp at h2)
set_option maxRecDepth 20000 in
theorem ws_k1 : ∀ i, i < 6 → Cond.laysStatic "PageBuilder$Kind" (x_nms.getD i "") "LPageBuilder$Kind;" ∈ lw_tbl := by decide +kernel
set_option maxRecDepth 20000 in
theorem ws_k2 : Cond.initialized "PageBuilder$Kind" ∈ lw_tbl := by decide +kernel
set_option maxRecDepth 20000 in
theorem ws_k3 : ∀ i, i < 6 → Cond.exactly (.static "PageBuilder$Kind" (x_nms.getD i "") "LPageBuilder$Kind;") "PageBuilder$Kind" ∈ flatC (Jvm.Cond.and given_1 narrow_1) := by decide +kernel
set_option maxRecDepth 20000 in
theorem ws_k4 : ∀ i, i < 6 → Cond.eq (.field (.static "PageBuilder$Kind" (x_nms.getD i "") "LPageBuilder$Kind;") "PageBuilder$Kind" "goesAtTop" "Z") (.int (([0, 1, 1, 1, 0, 0] : List Int32).getD i 0)) ∈ flatC (Jvm.Cond.and given_1 narrow_1) := by decide +kernel
set_option maxRecDepth 20000 in
theorem ws_k5 : ∀ i, i < 6 → ∀ j, j < 6 → i ≠ j → Cond.not (.eq (.static "PageBuilder$Kind" (x_nms.getD i "") "LPageBuilder$Kind;") (.static "PageBuilder$Kind" (x_nms.getD j "") "LPageBuilder$Kind;")) ∈ flatC (Jvm.Cond.and given_1 narrow_1) ∨ Cond.not (.eq (.static "PageBuilder$Kind" (x_nms.getD j "") "LPageBuilder$Kind;") (.static "PageBuilder$Kind" (x_nms.getD i "") "LPageBuilder$Kind;")) ∈ flatC (Jvm.Cond.and given_1 narrow_1) := by decide +kernel
theorem ws_En (hts : ∀ w ∈ lw_tbl, w.before A s = true) (hgv : (Jvm.Cond.and given_1 narrow_1).before A s = true) : ∃ ad : Nat → Nat, va_En "PageBuilder$Kind" "LPageBuilder$Kind;" ["BOX", "GLUE", "KERN", "PENALTY", "INSERT", "MARK"] [("PageBuilder$Kind", "goesAtTop", "Z", [0, 1, 1, 1, 0, 0])] ad (fun q => s.heap.size ≤ q) s s.heap := by
  have hf := flat_of_before _ hgv
  refine va_Enof (fun i hi => hts _ (ws_k1 i hi)) (hts _ ws_k2) (fun i hi => hf _ (ws_k3 i hi)) (fun q hq i hi => ?_) (fun i j hi hj hne => ?_) (fun a ha h => by omega)
  · simp only [List.mem_cons, List.not_mem_nil, or_false] at hq
    subst hq
    exact hf _ (ws_k4 i hi)
  · rcases ws_k5 i hi j hj hne with h | h
    · exact Or.inl (hf _ h)
    · exact Or.inr (hf _ h)
set_option maxRecDepth 20000 in
theorem ws_t1 : ∀ w ∈ x_ow, w ∈ lw_tbl ∨ w ∈ flatC (Jvm.Cond.and given_1 narrow_1) := by decide +kernel
set_option maxRecDepth 20000 in
theorem ws_t2 : Cond.stringRef RX7 169 "no such page or which" ∈ lw_tbl := by decide +kernel
set_option maxRecDepth 20000 in
theorem ws_t3 : Cond.exactly (.string RX7 169) "java/lang/String" ∈ flatC (Jvm.Cond.and given_1 narrow_1) := by decide +kernel
theorem ws_thr (hts : ∀ w ∈ lw_tbl, w.before A s = true) (hgv : (Jvm.Cond.and given_1 narrow_1).before A s = true) : x_thr s.heap.size s s.heap := by
  have hf := flat_of_before _ hgv
  obtain ⟨a, c, cell, k, h1, -⟩ := Cond.exactly_spec (args := A) (first := s) (o := none) (s := s) (idx := []) (hf _ ws_t3)
  refine ⟨s, A, a, Nat.le_refl _, State.WarmedH.refl s, fun _ _ => rfl, fun w hw => ?_, vk_R.of (hts _ ws_t2) h1⟩
  rcases ws_t1 w hw with h | h
  · exact hts _ h
  · exact hf _ h
end WS
