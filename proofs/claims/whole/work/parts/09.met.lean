/-! A METHOD RUN BY THE ABSTRACT MACHINE IS A CONTRACT -/
def x_Pc (D : va_G) (cA ad : Nat → Nat) (B : Nat) (vs : List Value) (σ : xW) : Array Value → State → Prop := fun v U => v = vs.toArray ∧ x_ok D cA B U σ U.heap ∧ x_tk D cA ad B U U.heap ∧ B ≤ U.heap.size
def x_Qc (D : va_G) (cA : Nat → Nat) (B : Nat) (r : Option Value) (σ' : xW) : Array Value → State → Outcome → State → Prop := fun _ st o t => o = .returned r ∧ x_ok D cA B t σ' t.heap ∧ va_F (fun q => B ≤ q) st t
def x_mono (E : xR) : Prop := ∀ vs σ r σ', E vs σ r σ' → σ.2.1 ≤ σ'.2.1 ∧ σ.2.2 ≤ σ'.2.2
def x_rm (Fr Lo : Nat) (σ σ' : xW) : Room := { frames := Fr, cells := σ'.2.1 - σ.2.1, slots := σ'.2.2 - σ.2.2, locals := Lo }
def x_Met (l : Launch) (D : va_G) (cA ad : Nat → Nat) (B : Nat) (y : MethodName) (cc : ByteArray) (nL : Nat) (ret : Option FieldType) (Fr Lo : Nat) (E : xR) : Prop :=
  x_mono E ∧ ∀ vs σ r σ', E vs σ r σ' → Met l y (.code y cc nL ret :: xT) (x_rm Fr Lo σ σ') (x_Pc D cA ad B vs σ) (x_Qc D cA B r σ') (σ'.2.1 - σ.2.1) (σ'.2.2 - σ.2.2) (fun q => B ≤ q)
/-- a call by this instruction, from a method of 'own' with so much room -/
def x_CW (l : Launch) (D : va_G) (cA ad : Nat → Nat) (B : Nat) (own : String) (Fc Lc : Nat) (op : Instr) (n : Nat) (E : xR) : Prop :=
  ∀ (p : Program) (e : Env) (R : Room) (s : State) (m : MethodId) (args : Array Value) (below : List Frame) (meth : Method) (c : Code) (H : Heap) (locs : List Loc) (cells slots : Nat) (Q : State → Prop) (cc : ByteArray) (pc : Nat) (L : Array Slot) (vs rest : List Value) (σ : xW) (r : Option Value) (σ' : xW),
    x_fx p s m args c cc own D cA ad B → c.maxLocals = L.size → Fc ≤ R.frames → Lc ≤ R.locals → x_ok D cA B s σ H → va_S (fun q => B ≤ q) s.heap H locs → decode cc pc = .ok (op, 3) → vs.length = n → E vs σ r σ' → (rest.map fun v => v.category).sum ≤ 8 → cells + (σ'.2.1 - σ.2.1) ≤ R.cells → slots + (σ'.2.2 - σ.2.2) ≤ R.slots →
    (∀ H1 locs1, x_ok D cA B s σ' H1 → va_S (fun q => B ≤ q) s.heap H1 locs1 → W p l e R s m args below meth c H1 locs1 (cells + (σ'.2.1 - σ.2.1)) (slots + (σ'.2.2 - σ.2.2)) Q (F0 m (pc + 3) L (r.toList ++ rest))) →
    W p l e R s m args below meth c H locs cells slots Q (F0 m pc L (vs.reverse ++ rest))
def xv_cal (l : Launch) (D : va_G) (cA ad : Nat → Nat) (B : Nat) (own : String) (Fc Lc : Nat) (cx : xC) : Prop := ∀ k kd n E, cx.2.2.2.2.2 k = some (kd, n, E) → x_mono E ∧ x_CW l D cA ad B own Fc Lc (x_op kd k) n E
theorem x_mem_mono {B : Nat} {cx : xC} {i : Instr} {st st' : List Value} {σ σ' : xW} (h : x_mem B cx i st σ st' σ') : σ.2.1 ≤ σ'.2.1 ∧ σ.2.2 ≤ σ'.2.2 := by
  cases i with
  | getfield k => obtain ⟨_, _, _, _, _, _, _, _, -, -, -, -, -, rfl⟩ := h; exact ⟨Nat.le_refl _, Nat.le_refl _⟩
  | putfield k => obtain ⟨_, _, _, _, _, _, -, -, -, -, -, -, -, rfl⟩ := h; exact ⟨Nat.le_refl _, Nat.le_refl _⟩
  | new k => obtain ⟨_, _, -, -, rfl⟩ := h; exact ⟨Nat.le_succ _, Nat.le_add_right _ _⟩
  | newarray k => obtain ⟨_, _, _, _, -, -, -, -, -, rfl⟩ := h; exact ⟨Nat.le_succ _, Nat.le_add_right _ _⟩
  | anewarray k => obtain ⟨_, _, _, -, -, -, -, -, rfl⟩ := h; exact ⟨Nat.le_succ _, Nat.le_add_right _ _⟩
  | arraylength => obtain ⟨_, _, _, _, -, -, -, -, -, rfl⟩ := h; exact ⟨Nat.le_refl _, Nat.le_refl _⟩
  | iaload => obtain ⟨_, _, _, _, _, _, -, -, -, -, -, rfl⟩ := h; exact ⟨Nat.le_refl _, Nat.le_refl _⟩
  | laload => obtain ⟨_, _, _, _, _, -, -, -, -, rfl⟩ := h; exact ⟨Nat.le_refl _, Nat.le_refl _⟩
  | baload => obtain ⟨_, _, _, _, _, -, -, -, -, rfl⟩ := h; exact ⟨Nat.le_refl _, Nat.le_refl _⟩
  | aaload => obtain ⟨_, _, _, _, _, _, -, -, -, -, -, rfl⟩ := h; exact ⟨Nat.le_refl _, Nat.le_refl _⟩
  | iastore => obtain ⟨_, _, _, _, -, -, -, -, rfl⟩ := h; exact ⟨Nat.le_refl _, Nat.le_refl _⟩
  | lastore => obtain ⟨_, _, _, _, -, -, -, -, rfl⟩ := h; exact ⟨Nat.le_refl _, Nat.le_refl _⟩
  | bastore => obtain ⟨_, _, _, _, -, -, -, -, -, rfl⟩ := h; exact ⟨Nat.le_refl _, Nat.le_refl _⟩
  | aastore => obtain ⟨_, _, _, _, _, _, _, -, -, -, -, -, -, rfl⟩ := h; exact ⟨Nat.le_refl _, Nat.le_refl _⟩
  | _ => exact (h : False).elim
/-- the three calls, as one -/
theorem x_call_of {cx : xC} {i : Instr} {st st' : List Value} {σ σ' : xW} (h : x_call cx i st σ st' σ') : ∃ k kd n E v, cx.2.2.2.2.2 k = some (kd, n, E) ∧ i = x_op kd k ∧ n ≤ st.length ∧ (((st.drop n).map fun v => v.category).sum ≤ 8) ∧ E (st.take n).reverse σ v σ' ∧ st' = v.toList ++ st.drop n := by
  cases i with
  | invokevirtual k => obtain ⟨n, E, v, h1, h2⟩ := h; exact ⟨k, 0, n, E, v, h1, rfl, h2⟩
  | invokestatic k => obtain ⟨n, E, v, h1, h2⟩ := h; exact ⟨k, 1, n, E, v, h1, rfl, h2⟩
  | invokespecial k => obtain ⟨n, E, v, h1, h2⟩ := h; exact ⟨k, 2, n, E, v, h1, rfl, h2⟩
  | _ => exact (h : False).elim
theorem x_op_len {kd k n : Nat} (h : x_len (x_op kd k) n) : n = 3 := by
  unfold x_op at h
  split at h <;> exact h
theorem x_i_mono {l : Launch} {D : va_G} {cA ad : Nat → Nat} {B Fc Lc : Nat} {own : String} {cx : xC} (hv : xv_cal l D cA ad B own Fc Lc cx) {i : Instr} {n pc pc' : Nat} {ls st ls' st' : List Value} {σ σ' : xW} (h : x_i B cx i n pc ls st σ pc' ls' st' σ') : σ.2.1 ≤ σ'.2.1 ∧ σ.2.2 ≤ σ'.2.2 := by
  rcases h with ⟨-, -, -, rfl⟩ | ⟨-, -, -, rfl⟩ | ⟨-, -, rfl⟩ | ⟨-, -, rfl⟩ | ⟨h, -⟩ | ⟨h, -⟩
  · exact ⟨Nat.le_refl _, Nat.le_refl _⟩
  · exact ⟨Nat.le_refl _, Nat.le_refl _⟩
  · exact ⟨Nat.le_refl _, Nat.le_refl _⟩
  · exact ⟨Nat.le_refl _, Nat.le_refl _⟩
  · exact x_mem_mono h
  · obtain ⟨k, kd, n, E, v, h1, -, -, -, h2, -⟩ := x_call_of h
    exact (hv k kd n E h1).1 _ _ _ _ h2
theorem x_store_len {i : Instr} {ls st ls' st' : List Value} (h : x_store i ls st ls' st') : ls'.length = ls.length := by
  cases i with
  | istore k => obtain ⟨v, -, -, -, rfl⟩ := h; simp
  | istore_n k => obtain ⟨v, -, -, -, rfl⟩ := h; simp
  | astore k => obtain ⟨v, -, -, -, -, rfl⟩ := h; simp
  | astore_n k => obtain ⟨v, -, -, -, -, rfl⟩ := h; simp
  | lstore k => obtain ⟨v, -, -, -, rfl⟩ := h; simp
  | lstore_n k => obtain ⟨v, -, -, -, rfl⟩ := h; simp
  | iinc k d => obtain ⟨v, -, -, -, rfl⟩ := h; simp
  | _ => exact (h : False).elim
section XMT
variable {p : Program} {l : Launch} {e : Env} {R : Room} {s : State} {m : MethodId} {args : Array Value} {below : List Frame} {meth : Method} {c : Code} {H : Heap} {locs : List Loc} {cells slots : Nat} {Q : State → Prop} {cc : ByteArray} {own : String} {D : va_G} {cA ad : Nat → Nat} {B : Nat} {cx : xC} {i : Instr} {n pc pc' : Nat} {L : Array Slot} {ls st ls' st' : List Value} {σ σ' : xW} {ini : Bool}
/-- behind a call -/
theorem x_run {mc ms : Nat} {st0 rest : List Value} {r : Option Value} {a : Array Value} (hr : va_Run p l e R s m args below meth c H locs cells slots mc ms (F0 m pc L st0) rest (x_Qc D cA B r σ' a) (fun q => B ≤ q)) (hS : va_S (fun q => B ≤ q) s.heap H locs) (kk : ∀ H1 locs1, x_ok D cA B s σ' H1 → va_S (fun q => B ≤ q) s.heap H1 locs1 → W p l e R s m args below meth c H1 locs1 (cells + mc) (slots + ms) Q (F0 m (pc + 3) L (r.toList ++ rest))) : W p l e R s m args below meth c H locs cells slots Q (F0 m pc L st0) := by
  intro T hT X
  obtain ⟨v, st₀, t, T', LL, h0, X', hL, e1, e2, ⟨hv, hok, hz, hk⟩, st⟩ := hr T hT X
  cases hv
  rw [h0] at hz hk
  have hal : s.vm.Alike t.vm := by rw [← e2]; exact X'.warmed.alike
  obtain ⟨t2, a1, b1⟩ := kk T'.heap (locs ++ LL) (by rw [e1]; exact x_ok_moved hal.symm hok)
    ⟨Nat.le_trans hS.1 (by rw [e1]; exact hz), fun q h1 h2 => by rw [e1, hk q (Nat.lt_of_lt_of_le h1 hS.1) h2]; exact hS.2.1 q h1 h2, fun q hq => by
      rcases List.mem_append.mp hq with h | h
      · exact hS.2.2 q h
      · exact hL q h⟩ T' rfl X'
  exact ⟨t2, st t2 a1, b1⟩
theorem x_blind {vs : List Value} : FrameBlind (x_Pc D cA ad B vs σ) := by
  intro a U g mk h
  obtain ⟨h1, h2, h3, h4⟩ := h
  exact ⟨h1, x_ok_moved (u := U) (U := U.calling g mk a) (Vm.Alike.refl U.vm) h2, x_tk_moved (u := U) (U := U.calling g mk a) (State.WarmedH.refl U) h3, h4⟩
theorem x_pre {vs : List Value} (F : x_fx p s m args c cc own D cA ad B) (hok : x_ok D cA B s σ H) (hS : va_S (fun q => B ≤ q) s.heap H locs) : ∀ U : State, U.heap = H → s.WarmedH U.vm → x_Pc D cA ad B vs σ vs.toArray U := by
  intro U hU hW
  obtain ⟨-, -, -, -, hT, hB⟩ := F
  refine ⟨rfl, by rw [hU]; exact x_ok_moved hW.alike hok, by rw [hU]; exact x_tk_moved hW (x_tk_kept hT hS.2.1), by rw [hU]; exact Nat.le_trans hB hS.1⟩
/-- one step -/
theorem x_one (F : x_fx p s m args c cc own D cA ad B) (hc : xv_cst own cx) (hs : xv_sta own ad cx) (hf : xv_fld own ini cx) (hn : xv_new own cx) (ha : xv_anew own cx) {Fc Lc : Nat} (hv : xv_cal l D cA ad B own Fc Lc cx) (hFc : Fc ≤ R.frames) (hLc : Lc ≤ R.locals) (hini : ini = true → meth.name = "<init>") (hml : c.maxLocals = ls.length)
    (d : decode cc pc = .ok (i, n)) (hl : x_len i n) (h : x_i B cx i n pc ls st σ pc' ls' st' σ') (hL : x_ls L ls) (hok : x_ok D cA B s σ H) (hS : va_S (fun q => B ≤ q) s.heap H locs) (hc1 : cells + (σ'.2.1 - σ.2.1) ≤ R.cells) (hc2 : slots + (σ'.2.2 - σ.2.2) ≤ R.slots)
    (k : ∀ L' H' locs', x_ls L' ls' → x_ok D cA B s σ' H' → va_S (fun q => B ≤ q) s.heap H' locs' → W p l e R s m args below meth c H' locs' (cells + (σ'.2.1 - σ.2.1)) (slots + (σ'.2.2 - σ.2.2)) Q (F0 m pc' L' st')) : W p l e R s m args below meth c H locs cells slots Q (F0 m pc L st) := by
  have same : ∀ {H' : Heap} {locs' : List Loc} {g : JFrame}, σ'.2 = σ.2 → W p l e R s m args below meth c H' locs' (cells + (σ'.2.1 - σ.2.1)) (slots + (σ'.2.2 - σ.2.2)) Q g → W p l e R s m args below meth c H' locs' cells slots Q g := by
    intro H' locs' g hσ w
    rw [hσ, Nat.sub_self, Nat.sub_self, Nat.add_zero, Nat.add_zero] at w
    exact w
  rcases h with ⟨h, rfl, rfl, rfl⟩ | ⟨h, rfl, rfl, rfl⟩ | ⟨h, rfl, rfl⟩ | ⟨h, rfl, rfl⟩ | ⟨h, rfl, rfl⟩ | ⟨h, rfl, rfl⟩
  · exact xs_pure F hc hs hS d hl h (same rfl (k L H locs hL hok hS))
  · exact xs_load F hL d hl h (same rfl (k L H locs hL hok hS))
  · exact xs_store F hL d hl h fun L' hL' => same rfl (k L' H locs hL' hok hS)
  · exact xs_jump F d hl h (same rfl (k L H locs hL hok hS))
  · cases i with
    | getfield q => cases hl; exact xm_getfield F hs hf hok hS d h fun e => by subst e; exact same rfl (k L H locs hL hok hS)
    | putfield q => cases hl; exact xm_putfield F hf hini hok hS d h fun H1 l1 o1 s1 e => same e (k L H1 l1 hL o1 s1)
    | new q => cases hl; exact xm_new F hn hok hS d h hc1 hc2 fun H1 o1 s1 => k L H1 locs hL o1 s1
    | newarray q => cases hl; exact xm_newarray F hok hS d h hc1 hc2 fun H1 o1 s1 => k L H1 locs hL o1 s1
    | anewarray q => cases hl; exact xm_anewarray F ha hok hS d h hc1 hc2 fun H1 o1 s1 => k L H1 locs hL o1 s1
    | arraylength => cases hl; exact xm_alen F hok d h fun e => by subst e; exact same rfl (k L H locs hL hok hS)
    | iaload => cases hl; exact xm_iaload F hok d h fun e => by subst e; exact same rfl (k L H locs hL hok hS)
    | laload => cases hl; exact xm_laload F hok d h fun e => by subst e; exact same rfl (k L H locs hL hok hS)
    | baload => cases hl; exact xm_baload F hok d h fun e => by subst e; exact same rfl (k L H locs hL hok hS)
    | aaload => cases hl; exact xm_aaload F hok d h fun e => by subst e; exact same rfl (k L H locs hL hok hS)
    | iastore => cases hl; exact xm_iastore F hok hS d h fun H1 l1 o1 s1 e => same e (k L H1 l1 hL o1 s1)
    | lastore => cases hl; exact xm_lastore F hok hS d h fun H1 l1 o1 s1 e => same e (k L H1 l1 hL o1 s1)
    | bastore => cases hl; exact xm_bastore F hok hS d h fun H1 l1 o1 s1 e => same e (k L H1 l1 hL o1 s1)
    | aastore => cases hl; exact xm_aastore F hok hS d h fun H1 l1 o1 s1 e => same e (k L H1 l1 hL o1 s1)
    | _ => exact (h : False).elim
  · obtain ⟨kk, kd, nn, E, v, h1, rfl, h2, h3, h4, rfl⟩ := x_call_of h
    obtain ⟨-, v1⟩ := hv kk kd nn E h1
    have hst : st = (st.take nn).reverse.reverse ++ st.drop nn := by rw [List.reverse_reverse, List.take_append_drop]
    have hln : (st.take nn).reverse.length = nn := by rw [List.length_reverse, List.length_take]; omega
    have hsz : c.maxLocals = L.size := hml.trans hL.1.symm
    cases x_op_len hl
    have := v1 p e R s m args below meth c H locs cells slots Q cc pc L _ _ σ v σ' F hsz hFc hLc hok hS d hln h4 h3 hc1 hc2 (fun H1 l1 o1 s1 => k L H1 l1 hL o1 s1)
    rw [← hst] at this
    exact this
end XMT
theorem x_i_len {B : Nat} {cx : xC} {i : Instr} {n pc pc' : Nat} {ls st ls' st' : List Value} {σ σ' : xW} (h : x_i B cx i n pc ls st σ pc' ls' st' σ') : ls'.length = ls.length := by
  rcases h with ⟨-, -, rfl, -⟩ | ⟨-, -, rfl, -⟩ | ⟨h, -⟩ | ⟨-, rfl, -⟩ | ⟨-, -, rfl⟩ | ⟨-, -, rfl⟩
  · rfl
  · rfl
  · exact x_store_len h
  · rfl
  · rfl
  · rfl
