theorem x_GIW : GoodIn xT (Cond.codeWith yL_marked cL_marked 5 (some .int) [(0, 10, 13, 13)] :: xT) := by
  intro w hw
  rcases List.mem_cons.mp hw with rfl | hw
  · exact ⟨xt7, good_of_word (xT_good _ xt7)⟩
  · exact ⟨hw, good_of_word (xT_good _ hw)⟩
/-- the law's call of its own marked -/
theorem x_mkCW {l : Launch} (hfl : l.flags = flags0) {D : va_G} {cA ad : Nat → Nat} {B : Nat} : x_CW l D cA ad B RL 11 386 (.invokestatic 73) 4 (emk B ad) := by
  intro p e R s m args below meth c H locs cells slots Q cc' pc L vs rest σ r σ' F hsz hFc hLc hok hS d hvl hE hrest hc1 hc2 kk
  have hMet := x_T2 (D := D) (cA := cA) hfl hE
  obtain ⟨hx, hb, hown, hts, hT, hB⟩ := id F
  have hK : Back l R p e below s args yL_marked 3 8 (PreOf R (σ'.2.1 - σ.2.1) (σ'.2.2 - σ.2.2) (x_Pc D cA ad B vs σ)) (PostOf (x_Qc D cA B r σ') (σ'.2.1 - σ.2.1) (σ'.2.2 - σ.2.2) (fun q => B ≤ q)) :=
    va_backW (hh := [(0, 10, 13, 13)]) (bytes := cL_marked) (maxL := 5) (ret := some .int) hMet x_blind rfl rfl (show (8 + 1 : Nat) ≤ R.frames by omega) (show (8 + (5 + 11) + 143 : Nat) ≤ R.locals by omega) (pay_in hts x_GIW) List.mem_cons_self (fun a' U hW => word_at hW (Or.inl (by first | rfl | simp [Cond.onTables, Cond.keeps, Cond.steady])) (hts _ xt11))
  have hlen : ∀ sig, parseMethodDescriptor yL_marked.desc = some sig → vs.length = sig.parameters.length := by
    intro sig hs
    have h2 : (parseMethodDescriptor yL_marked.desc).map (fun d => d.parameters.length) = some 4 := by decide +kernel
    rw [hs] at h2
    rw [hvl]
    exact (Option.some.inj h2).symm
  refine x_run (mc := σ'.2.1 - σ.2.1) (ms := σ'.2.2 - σ.2.2) (a := vs.toArray) (rest := rest) (r := r) ?_ hS kk
  intro T hTh X
  obtain ⟨mk, methM, cM, hnamed, hmethM, -, -, -, -, -, -, hsigM⟩ := Cond.codeWith_spec (hts _ xt7)
  have hstatic : methM.isStatic = true := Cond.static_spec hnamed hmethM (hts _ xt10)
  obtain ⟨kP, hkP, -⟩ := className_of_methodNamed hnamed
  have hinitP : kP.init = .initialized := Cond.initialized_spec (findClass_of_methodNamed hnamed) hkP (hts _ xt11)
  obtain ⟨vm₁, X₁, hstep₁⟩ := X.invokestatic hx hown (hts _ xt9) hnamed hmethM hstatic hkP hinitP ⟨by decide +kernel, by decide +kernel⟩ (g := F0 m pc L (vs.reverse ++ rest)) rfl (argsL := vs) (rest := rest) (hlen _ hsigM) rfl (by rw [hb]; exact d)
  obtain ⟨v, ⟨U', l2, c2, s2⟩, X', ⟨g', mk', t, LL, e1, e2, hq, h1, hL, h2, h3⟩, hsteps⟩ := hK m meth c ⟨T.setVm vm₁, locs, cells, slots⟩ (F0 m pc L rest) (.invokestatic 73) mk vs.toArray X₁ rfl hsz.symm (by rw [hb]; exact d) (lv_room hrest) (X₁.named hnamed) ⟨hc1, hc2, x_pre F hok hS _ hTh X₁.warmed⟩
  dsimp only [Pt.U, Pt.locs, Pt.cells, Pt.slots] at X' e1 e2 h1 h2 h3 hsteps
  subst h1; subst h2; subst h3
  exact ⟨v, (T.setVm vm₁).calling g' mk' vs.toArray, t, U', LL, hTh, X', hL, e1, e2, hq, fun target h => hstep₁ _ fun acts => by rw [doInvoke_state]; exact hsteps.trans h⟩
