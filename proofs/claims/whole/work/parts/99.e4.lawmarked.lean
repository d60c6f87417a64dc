/-! THE LAW'S marked: its contract -/
def caMk (B : Nat) (ad : Nat → Nat) : List (Nat × Nat × Nat × xR) := [(7, 0, 3, x_v 7 (eX7_marked B ad))]
def cxMk (B : Nat) (ad : Nat → Nat) : xC := (fun _ => none, fun _ => none, fun _ => none, fun _ => none, fun _ => none, fun k => (caMk B ad).lookup k)
set_option maxRecDepth 20000 in
theorem xt3 : Cond.code yX7_marked cX7_marked 4 (some .int) ∈ xT := xT_in (by decide +kernel) rfl
set_option maxRecDepth 20000 in
theorem xt4 : Cond.methodLink RL 7 yX7_marked ∈ xT := xT_in (by decide +kernel) rfl
set_option maxRecDepth 20000 in
theorem xt5 : Cond.instanceMethod yX7_marked ∈ xT := xT_in (by decide +kernel) rfl
set_option maxRecDepth 20000 in
theorem xt6 : Cond.selects RX7 yX7_marked yX7_marked ∈ xT := xT_in (by decide +kernel) rfl
set_option maxRecDepth 20000 in
theorem xt7 : Cond.codeWith yL_marked cL_marked 5 (some .int) [(0, 10, 13, 13)] ∈ xT := xT_in (by decide +kernel) rfl
set_option maxRecDepth 20000 in
theorem xt8 : Cond.classLink RL 13 RJx00060 ∈ xT := xT_in (by decide +kernel) rfl
set_option maxRecDepth 20000 in
theorem xt9 : Cond.methodLink RL 73 yL_marked ∈ xT := xT_in (by decide +kernel) rfl
set_option maxRecDepth 20000 in
theorem xt10 : Cond.static yL_marked ∈ xT := xT_in (by decide +kernel) rfl
set_option maxRecDepth 20000 in
theorem xt11 : Cond.initialized RL ∈ xT := xT_in (by decide +kernel) rfl
theorem x_cal_Mk {l : Launch} {D : va_G} {cA ad : Nat → Nat} {B : Nat} : xv_cal l D cA ad B RL 3 66 (cxMk B ad) := by
  intro k kd n E hk
  have hm : (k, kd, n, E) ∈ caMk B ad := x_look hk
  simp only [caMk, List.mem_cons, List.not_mem_nil, or_false, Prod.mk.injEq] at hm
  obtain ⟨rfl, rfl, rfl, rfl⟩ := hm
  exact x_cwV (t := 7) mX7_marked rfl (by decide) rfl xt4 xt5 xt6 xw12 xt3 ⟨by decide +kernel, by decide +kernel, by decide +kernel⟩ ⟨by decide, by decide⟩
theorem x_Mk_cst {B : Nat} {ad : Nat → Nat} : xv_cst RL (cxMk B ad) := ⟨(fun _ _ h => by cases h), (fun _ _ h => by cases h)⟩
theorem x_Mk_sta {B : Nat} {ad : Nat → Nat} : xv_sta RL ad (cxMk B ad) := fun _ _ h => by cases h
theorem x_Mk_fld {B : Nat} {ad : Nat → Nat} : xv_fld RL false (cxMk B ad) := fun _ _ _ _ _ h => by cases h
theorem x_Mk_new {B : Nat} {ad : Nat → Nat} : xv_new RL (cxMk B ad) := fun _ _ _ h => by cases h
theorem x_Mk_anew {B : Nat} {ad : Nat → Nat} : xv_anew RL (cxMk B ad) := fun _ _ h => by cases h
theorem x_cal_up {l : Launch} {D : va_G} {cA ad : Nat → Nat} {B : Nat} {own : String} {Fc Lc Fd Ld : Nat} {cx : xC} (h : xv_cal l D cA ad B own Fc Lc cx) (h1 : Fc ≤ Fd) (h2 : Lc ≤ Ld) : xv_cal l D cA ad B own Fd Ld cx := by
  intro k kd n E hk
  obtain ⟨g1, g2⟩ := h k kd n E hk
  refine ⟨g1, ?_⟩
  intro p e R s m args below meth c H locs cells slots Q cc pc L vs rest σ r σ' F hsz hFc hLc
  exact g2 p e R s m args below meth c H locs cells slots Q cc pc L vs rest σ r σ' F hsz (Nat.le_trans h1 hFc) (Nat.le_trans h2 hLc)
theorem emk_mono (l : Launch) (D : va_G) (cA : Nat → Nat) {B : Nat} {ad : Nat → Nat} : x_mono (emk B ad) := by
  intro vs σ r σ' h
  obtain ⟨x, p, q, o, fs, -, -, ⟨v, σ1, y, h1, -, -, -, rfl⟩ | ⟨-, -, rfl⟩⟩ := h
  · have h2 := (mX7_marked (l := l) (D := D) (cA := cA)).1 _ _ _ _ h1
    exact h2
  · exact ⟨Nat.le_succ _, Nat.le_add_right _ _⟩
/-- the not-throwing road, over worlds -/
theorem x_mk_ok {B : Nat} {ad : Nat → Nat} {x o : Nat} {pp qq v : Int32} {y : Int64} {fs : List Value} {σ σ1 : xW} (h7 : σ.1 x = some (7, fs)) (h1 : eX7_marked B ad [.ref x, .int pp, .int qq] σ (some (.int v)) σ1) (ho : σ1.1 o = some (101, [.long y])) (hB : B ≤ o) :
    x_WP B (some .int) (cxMk B ad) cL_marked (fun w g => w = some (.int 0) ∧ g = (x_up σ1.1 o (101, [.long v.toInt64]), σ1.2)) 0 [.ref x, .int pp, .int qq, .ref o, .retAddr 0] [] σ := by
  refine (xr_aload_n dL_marked_0).mpr ⟨.ref o, rfl, Or.inr ⟨o, rfl⟩, ?_⟩
  refine (xr_iconst dL_marked_1 (v := 0) (by decide)).mpr ?_
  refine (xr_aload_n dL_marked_2).mpr ⟨.ref x, rfl, Or.inr ⟨x, rfl⟩, ?_⟩
  refine (xr_iload_n dL_marked_3).mpr ⟨pp, rfl, ?_⟩
  refine (xr_iload_n dL_marked_4).mpr ⟨qq, rfl, ?_⟩
  refine (xr_callV [.ref x, .int pp, .int qq] [.int 0, .ref o] dL_marked_5 rfl).mpr ⟨(show (2 : Nat) ≤ 8 by decide), some (.int v), σ1, ⟨⟨x, _, fs, rfl, h7⟩, h1⟩, ?_⟩
  refine (xr_i2l dL_marked_8).mpr ?_
  refine (xr_lastore dL_marked_9).mpr ⟨[.long y], ho, rfl, hB, ?_⟩
  refine (xr_goto dL_marked_10 (tgt := 17) (by decide)).mpr ?_
  refine (xr_iconst dL_marked_17 (v := 0) (by decide)).mpr ?_
  exact (xr_ireturn dL_marked_18).mpr ⟨rfl, rfl⟩
/-- from the handler on -/
theorem x_mk_13 {B a : Nat} {ad : Nat → Nat} {v0 v1 v2 v3 : Value} {σ : xW} (h3 : v3.category = 1) : x_WP B (some .int) (cxMk B ad) cL_marked (fun w g => w = some (.int 1) ∧ g = σ) 13 [v0, v1, v2, v3, .retAddr 0] [.ref a] σ := by
  refine (xr_astore dL_marked_13).mpr ⟨Or.inr ⟨a, rfl⟩, (show (4 : Nat) < 5 by decide), ?_, ?_⟩
  · intro k v hk hv
    cases hk
    cases hv
    exact h3
  refine (xr_iconst dL_marked_15 (v := 1) (by decide)).mpr ?_
  exact (xr_ireturn dL_marked_16).mpr ⟨rfl, rfl⟩
