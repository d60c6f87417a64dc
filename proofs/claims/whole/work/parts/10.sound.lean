section XSD
variable {p : Program} {l : Launch} {e : Env} {R : Room} {s : State} {m : MethodId} {args : Array Value} {below : List Frame} {meth : Method} {c : Code} {cc : ByteArray} {own : String} {D : va_G} {cA ad : Nat → Nat} {B : Nat} {cx : xC} {ini : Bool}
/-- a body that the abstract machine brings to its end, the machine does too -/
theorem x_body (F : x_fx p s m args c cc own D cA ad B) (hc : xv_cst own cx) (hs : xv_sta own ad cx) (hf : xv_fld own ini cx) (hn : xv_new own cx) (ha : xv_anew own cx) {Fc Lc : Nat} (hv : xv_cal l D cA ad B own Fc Lc cx) (hFc : Fc ≤ R.frames) (hLc : Lc ≤ R.locals) (hini : ini = true → meth.name = "<init>")
    {rt : Option FieldType} (hr : meth.sig.returnType = rt) (hlocks : meth.locks = false) {r : Option Value} {σ0 σf : xW} (hR1 : σf.2.1 - σ0.2.1 ≤ R.cells) (hR2 : σf.2.2 - σ0.2.2 ≤ R.slots)
    {pc : Nat} {ls st : List Value} {σ : xW} (h : x_WP B rt cx cc (fun v g => v = r ∧ g = σf) pc ls st σ) :
    (σ.2.1 ≤ σf.2.1 ∧ σ.2.2 ≤ σf.2.2) ∧ ∀ (L : Array Slot) (H : Heap) (locs : List Loc), ls.length = c.maxLocals → x_ls L ls → x_ok D cA B s σ H → va_S (fun q => B ≤ q) s.heap H locs → σ0.2.1 ≤ σ.2.1 → σ0.2.2 ≤ σ.2.2 →
      W p l e R s m args below meth c H locs (σ.2.1 - σ0.2.1) (σ.2.2 - σ0.2.2) (MQ below (x_Qc D cA B r σf) args s (σf.2.1 - σ0.2.1) (σf.2.2 - σ0.2.2) (fun q => B ≤ q)) (F0 m pc L st) := by
  refine x_WP_ind (R := fun pc ls st σ => (σ.2.1 ≤ σf.2.1 ∧ σ.2.2 ≤ σf.2.2) ∧ ∀ (L : Array Slot) (H : Heap) (locs : List Loc), ls.length = c.maxLocals → x_ls L ls → x_ok D cA B s σ H → va_S (fun q => B ≤ q) s.heap H locs → σ0.2.1 ≤ σ.2.1 → σ0.2.2 ≤ σ.2.2 →
      W p l e R s m args below meth c H locs (σ.2.1 - σ0.2.1) (σ.2.2 - σ0.2.2) (MQ below (x_Qc D cA B r σf) args s (σf.2.1 - σ0.2.1) (σf.2.2 - σ0.2.2) (fun q => B ≤ q)) (F0 m pc L st)) h fun pc ls st σ hs1 => ?_
  rcases hs1 with ⟨pc', ls', st', σ', ⟨i, n, d, hl, hi⟩, ⟨g1, g2⟩, ih⟩ | ⟨v, ⟨i, n, d, hl, hi⟩, rfl, rfl⟩
  · have hm := x_i_mono hv hi
    refine ⟨⟨Nat.le_trans hm.1 g1, Nat.le_trans hm.2 g2⟩, fun L H locs hln hL hok hS h1 h2 => ?_⟩
    refine x_one F hc hs hf hn ha hv hFc hLc hini hln.symm d hl hi hL hok hS (by omega) (by omega) fun L' H' locs' hL' hok' hS' => ?_
    have := ih L' H' locs' ((x_i_len hi).trans hln) hL' hok' hS' (by omega) (by omega)
    rw [show σ.2.1 - σ0.2.1 + (σ'.2.1 - σ.2.1) = σ'.2.1 - σ0.2.1 by omega, show σ.2.2 - σ0.2.2 + (σ'.2.2 - σ.2.2) = σ'.2.2 - σ0.2.2 by omega]
    exact this
  · refine ⟨⟨Nat.le_refl _, Nat.le_refl _⟩, fun L H locs hln hL hok hS h1 h2 => ?_⟩
    obtain ⟨hx, hb, hown, hts, hT, hB⟩ := F
    have hq : ∀ t : State, t.heap = H → s.WarmedH t.vm → x_Qc D cA B v σ args s (.returned v) t := fun t ht hW => ⟨rfl, by rw [ht]; exact x_ok_moved hW.alike hok, hS.F ht⟩
    cases i with
    | ireturn =>
      cases hl
      obtain ⟨x, rfl, h3, rfl⟩ := hi
      rcases h3 with rfl | ⟨rfl, h3⟩
      · exact W.zret hx hb hr rfl hq hS.2.2 d hlocks
      · exact W.zret hx hb hr (by rcases h3 with rfl | rfl <;> rfl) hq hS.2.2 d hlocks
    | lreturn => cases hl; obtain ⟨x, rfl, rfl, rfl⟩ := hi; exact W.lret hx hb hr hq hS.2.2 d hlocks
    | areturn => cases hl; obtain ⟨x, rfl, h3, ⟨nm, rfl⟩, rfl⟩ := hi; exact W.aret hx hb hr (Or.inl ⟨nm, rfl⟩) h3 hq hS.2.2 d hlocks
    | return_ => cases hl; obtain ⟨rfl, rfl, rfl⟩ := hi; exact W.vret hx hb hr hq hS.2.2 d hlocks
    | _ => exact (hi : False).elim
end XSD
/-- THE CONTRACT of a method that the abstract machine runs -/
theorem x_sound {l : Launch} {D : va_G} {cA ad : Nat → Nat} {B : Nat} {cc : ByteArray} {cx : xC} {ini : Bool} {y : MethodName} (hy : plainName y.cls = true) (hc : xv_cst y.cls cx) (hs : xv_sta y.cls ad cx) (hf : xv_fld y.cls ini cx) (hn : xv_new y.cls cx) (ha : xv_anew y.cls cx) {Fc Lc : Nat} (hv : xv_cal l D cA ad B y.cls Fc Lc cx) (hini : ini = true → y.name = "<init>") (rt : Option FieldType) (nL : Nat) : x_Met l D cA ad B y cc nL rt Fc Lc (x_ev B rt cx cc nL) := by
  refine ⟨fun vs σ r σ' h => ?_, fun vs σ r σ' h => ?_⟩
  · refine x_WP_ind (R := fun pc ls st σ => σ.2.1 ≤ σ'.2.1 ∧ σ.2.2 ≤ σ'.2.2) h.2 fun pc ls st σ hs1 => ?_
    rcases hs1 with ⟨pc', ls', st', σ1, ⟨i, n, d, hl, hi⟩, g1, g2⟩ | ⟨v, -, -, rfl⟩
    · have hm := x_i_mono hv hi
      exact ⟨Nat.le_trans hm.1 g1, Nat.le_trans hm.2 g2⟩
    · exact ⟨Nat.le_refl _, Nat.le_refl _⟩
  · refine Met.ofW (cc := cc) (maxL := nL) (ret := rt) hy rfl ?_
    intro p e s m args below meth c s₁ Bd hml hp
    obtain ⟨rfl, hok, hT, hB⟩ := hp
    have hts := atoms_spec (ws := Cond.code y cc nL rt :: xT) Bd.pre
    have hown : s.vm.findClass y.cls = some m.cls := findClass_of_methodNamed Bd.named
    have F : x_fx p s m vs.toArray c cc y.cls D cA ad B := ⟨Bd.exec, Bd.bytes, hown, fun w hw => hts w (List.mem_cons_of_mem _ hw), hT, hB⟩
    have hname : ini = true → meth.name = "<init>" := fun h => ((name_of_methodNamed Bd.named Bd.method).1).trans (hini h)
    have hL := x_ls_in (n := nL) h.1
    rw [lg_entry_eq]
    have hlen : (x_in nL vs).length = nL := by
      unfold x_in
      rw [List.length_append, List.length_replicate]
      have := h.1
      omega
    have K := (x_body (l := l) (e := e) (below := below) (R := (headSpec (Cond.code y cc nL rt :: xT) (x_rm Fc Lc σ σ')).room) F hc hs hf hn ha hv (Nat.le_refl _) (Nat.le_refl _) hname Bd.returns Bd.notSynchronized (σ0 := σ) (σf := σ') (Nat.le_refl _) (Nat.le_refl _) h.2).2 _ s.heap [] (hlen.trans hml.symm) hL hok va_S.rf (Nat.le_refl _) (Nat.le_refl _)
    rw [Nat.sub_self, Nat.sub_self] at K
    exact K
