/-! THE KINDS OF CALLS -/
/-- a call on an object of kind t -/
def x_v (t : Nat) (E : xR) : xR := fun vs σ r σ' => (∃ a rr fs, vs = .ref a :: rr ∧ σ.1 a = some (t, fs)) ∧ E vs σ r σ'
/-- Object's own constructor; Math.min over longs -/
def x_obj : xR := fun vs σ r σ' => (∃ a, vs = [.ref a]) ∧ r = none ∧ σ' = σ
def x_min : xR := fun vs σ r σ' => ∃ a b, vs = [.long a, .long b] ∧ r = some (.long (if b < a then b else a)) ∧ σ' = σ
theorem x_v_mono {t : Nat} {E : xR} (h : x_mono E) : x_mono (x_v t E) := fun vs σ r σ' q => h vs σ r σ' q.2
/-- a call by 'invokespecial' of a constructor: the object is the first of the arguments -/
def x_n1 (E : xR) : xR := fun vs σ r σ' => (∃ a rr, vs = .ref a :: rr) ∧ E vs σ r σ'
theorem x_n1_mono {E : xR} (h : x_mono E) : x_mono (x_n1 E) := fun vs σ r σ' q => h vs σ r σ' q.2
theorem x_GI {y : MethodName} {cc : ByteArray} {nL : Nat} {ret : Option FieldType} (h : Cond.code y cc nL ret ∈ xT) : GoodIn xT (Cond.code y cc nL ret :: xT) := by
  intro w hw
  rcases List.mem_cons.mp hw with rfl | hw
  · exact ⟨h, good_of_word (xT_good _ h)⟩
  · exact ⟨hw, good_of_word (xT_good _ hw)⟩
section XCA
variable {l : Launch} {D : va_G} {cA ad : Nat → Nat} {B : Nat} {y : MethodName} {cc : ByteArray} {nL : Nat} {ret : Option FieldType} {Fr Lo Fc Lc : Nat} {E : xR} {own : String} {k n : Nat}
theorem x_cwV {t : Nat} {q : vw_C} (hM : x_Met l D cA ad B y cc nL ret Fr Lo E) (hq : vwCl[t]? = some q) (ht : t < 100) (hqy : q.1 = y.cls) (w1 : Cond.methodLink own k y ∈ xT) (w2 : Cond.instanceMethod y ∈ xT) (w3 : Cond.selects y.cls y y ∈ xT) (w4 : Cond.initialized y.cls ∈ xT) (w5 : Cond.code y cc nL ret ∈ xT) (hd : y.cls ≠ "java/lang/invoke/MethodHandle" ∧ y.cls ≠ "java/lang/invoke/VarHandle" ∧ (parseMethodDescriptor y.desc).map (fun d => d.parameters.length) = some n) (hR : Fr + 1 ≤ Fc ∧ 8 + (nL + 11) + Lo ≤ Lc) : x_mono (x_v t E) ∧ x_CW l D cA ad B own Fc Lc (.invokevirtual k) (n + 1) (x_v t E) := by
  refine ⟨x_v_mono hM.1, ?_⟩
  intro p e R s m args below meth c H locs cells slots Q cc' pc L vs rest σ r σ' F hsz hFc hLc hok hS d hvl hE hrest hc1 hc2 kk
  obtain ⟨⟨a, rr, fs, rfl, h1⟩, hE⟩ := hE
  have hMet := hM.2 _ _ _ _ hE
  obtain ⟨hx, hb, hown, hts, hT, hB⟩ := id F
  have hlen : rr.length = n := by simpa using hvl
  have hrec := va_recv (tys := []) hT.1 (xm_one (xm_obj (hok.1 a _ h1) ht)) hq (q0 := 0) rfl
  rw [hqy] at hrec
  exact x_run (va_runV (As := rr) (rest := rest) (Ts := xT) (C := y.cls) ⟨hx, hb, hsz, hown, hts⟩ hMet ⟨callB_of n hts (x_GI w5) rfl rfl rfl (hts _ w4) (hts _ w1) hd ⟨Nat.le_trans hR.1 hFc, Nat.le_trans hR.2 hLc⟩, hts _ w2, hts _ w3⟩ ⟨x_blind, hrec, x_pre F hok hS⟩ rfl hlen rfl (by show (Value.ref a :: rr).reverse ++ rest = _; simp) (lv_room hrest) d ⟨hc1, hc2⟩) hS kk
theorem x_cwS (hM : x_Met l D cA ad B y cc nL ret Fr Lo E) (w1 : Cond.methodLink own k y ∈ xT) (w2 : Cond.static y ∈ xT) (w4 : Cond.initialized y.cls ∈ xT) (w5 : Cond.code y cc nL ret ∈ xT) (hd : y.cls ≠ "java/lang/invoke/MethodHandle" ∧ y.cls ≠ "java/lang/invoke/VarHandle" ∧ (parseMethodDescriptor y.desc).map (fun d => d.parameters.length) = some n) (hR : Fr + 1 ≤ Fc ∧ 8 + (nL + 11) + Lo ≤ Lc) : x_mono E ∧ x_CW l D cA ad B own Fc Lc (.invokestatic k) n E := by
  refine ⟨hM.1, ?_⟩
  intro p e R s m args below meth c H locs cells slots Q cc' pc L vs rest σ r σ' F hsz hFc hLc hok hS d hvl hE hrest hc1 hc2 kk
  have hMet := hM.2 _ _ _ _ hE
  obtain ⟨hx, hb, hown, hts, hT, hB⟩ := id F
  exact x_run (va_runS (As := vs) (rest := rest) (Ts := xT) ⟨hx, hb, hsz, hown, hts⟩ hMet ⟨callB_of n hts (x_GI w5) rfl rfl rfl (hts _ w4) (hts _ w1) hd ⟨Nat.le_trans hR.1 hFc, Nat.le_trans hR.2 hLc⟩, hts _ w2⟩ ⟨x_blind, x_pre F hok hS⟩ rfl hvl rfl rfl (lv_room hrest) d ⟨hc1, hc2⟩) hS kk
theorem x_cwI (hM : x_Met l D cA ad B y cc nL none Fr Lo E) (hy : y.name = "<init>") (w1 : Cond.methodLink own k y ∈ xT) (w2 : Cond.instanceMethod y ∈ xT) (w4 : Cond.initialized y.cls ∈ xT) (w5 : Cond.code y cc nL none ∈ xT) (hd : y.cls ≠ "java/lang/invoke/MethodHandle" ∧ y.cls ≠ "java/lang/invoke/VarHandle" ∧ (parseMethodDescriptor y.desc).map (fun d => d.parameters.length) = some n) (hR : Fr + 1 ≤ Fc ∧ 8 + (nL + 11) + Lo ≤ Lc) : x_mono (x_n1 E) ∧ x_CW l D cA ad B own Fc Lc (.invokespecial k) (n + 1) (x_n1 E) := by
  refine ⟨x_n1_mono hM.1, ?_⟩
  intro p e R s m args below meth c H locs cells slots Q cc' pc L vs rest σ r σ' F hsz hFc hLc hok hS d hvl hE hrest hc1 hc2 kk
  obtain ⟨⟨a, rr, rfl⟩, hE⟩ := hE
  have hMet := hM.2 _ _ _ _ hE
  obtain ⟨hx, hb, hown, hts, hT, hB⟩ := id F
  have hlen : rr.length = n := by simpa using hvl
  exact x_run (va_runI (As := rr) (rest := rest) (Ts := xT) ⟨hx, hb, hsz, hown, hts⟩ hMet ⟨callB_of n hts (x_GI w5) rfl rfl rfl (hts _ w4) (hts _ w1) hd ⟨Nat.le_trans hR.1 hFc, Nat.le_trans hR.2 hLc⟩, hy, hts _ w2⟩ ⟨x_blind, x_pre F hok hS⟩ rfl hlen rfl (by show (Value.ref a :: rr).reverse ++ rest = _; simp) (lv_room hrest) d ⟨hc1, hc2⟩) hS kk
theorem x_cwSN {host : String} (hM : x_Met l D cA ad B y cc nL ret Fr Lo E) (w1 : Cond.methodLinkNest own k y host ∈ x_nest) (w2 : Cond.static y ∈ xT) (w4 : Cond.initialized y.cls ∈ xT) (w5 : Cond.code y cc nL ret ∈ xT) (hd : y.cls ≠ "java/lang/invoke/MethodHandle" ∧ y.cls ≠ "java/lang/invoke/VarHandle" ∧ (parseMethodDescriptor y.desc).map (fun d => d.parameters.length) = some n) (hR : Fr + 1 ≤ Fc ∧ 8 + (nL + 11) + Lo ≤ Lc) : x_mono E ∧ x_CW l D cA ad B own Fc Lc (.invokestatic k) n E := by
  refine ⟨hM.1, ?_⟩
  intro p e R s m args below meth c H locs cells slots Q cc' pc L vs rest σ r σ' F hsz hFc hLc hok hS d hvl hE hrest hc1 hc2 kk
  have hMet := hM.2 _ _ _ _ hE
  obtain ⟨hx, hb, hown, hts, hT, hB⟩ := id F
  exact x_run (va_runSN (As := vs) (rest := rest) (Ts := xT) ⟨hx, hb, hsz, hown, hts⟩ hMet ⟨va_cnB n hts (x_GI w5) rfl rfl rfl (hT.2.2.2.1 _ w1) (hts _ w4) hd ⟨Nat.le_trans hR.1 hFc, Nat.le_trans hR.2 hLc⟩, hts _ w2, trivial⟩ ⟨x_blind, x_pre F hok hS⟩ rfl hvl rfl rfl (lv_room hrest) d ⟨hc1, hc2⟩) hS kk
theorem x_cwIN {host : String} (hM : x_Met l D cA ad B y cc nL none Fr Lo E) (hy : y.name = "<init>") (w1 : Cond.methodLinkNest own k y host ∈ x_nest) (w2 : Cond.instanceMethod y ∈ xT) (w4 : Cond.initialized y.cls ∈ xT) (w5 : Cond.code y cc nL none ∈ xT) (hd : y.cls ≠ "java/lang/invoke/MethodHandle" ∧ y.cls ≠ "java/lang/invoke/VarHandle" ∧ (parseMethodDescriptor y.desc).map (fun d => d.parameters.length) = some n) (hR : Fr + 1 ≤ Fc ∧ 8 + (nL + 11) + Lo ≤ Lc) : x_mono (x_n1 E) ∧ x_CW l D cA ad B own Fc Lc (.invokespecial k) (n + 1) (x_n1 E) := by
  refine ⟨x_n1_mono hM.1, ?_⟩
  intro p e R s m args below meth c H locs cells slots Q cc' pc L vs rest σ r σ' F hsz hFc hLc hok hS d hvl hE hrest hc1 hc2 kk
  obtain ⟨⟨a, rr, rfl⟩, hE⟩ := hE
  have hMet := hM.2 _ _ _ _ hE
  obtain ⟨hx, hb, hown, hts, hT, hB⟩ := id F
  have hlen : rr.length = n := by simpa using hvl
  exact x_run (va_runIN (As := rr) (rest := rest) (Ts := xT) ⟨hx, hb, hsz, hown, hts⟩ hMet ⟨va_cnB n hts (x_GI w5) rfl rfl rfl (hT.2.2.2.1 _ w1) (hts _ w4) hd ⟨Nat.le_trans hR.1 hFc, Nat.le_trans hR.2 hLc⟩, hy, hts _ w2⟩ ⟨x_blind, x_pre F hok hS⟩ rfl hlen rfl (by show (Value.ref a :: rr).reverse ++ rest = _; simp) (lv_room hrest) d ⟨hc1, hc2⟩) hS kk
theorem x_cwO (w1 : Cond.methodLink own k objectInit ∈ xT) (w2 : Cond.instanceMethod objectInit ∈ xT) (w3 : Cond.code objectInit ⟨#[0xb1]⟩ 1 none ∈ xT) (hR : 1 ≤ Fc ∧ 20 ≤ Lc) : x_mono x_obj ∧ x_CW l D cA ad B own Fc Lc (.invokespecial k) 1 x_obj := by
  refine ⟨fun vs σ r σ' h => by rw [h.2.2]; exact ⟨Nat.le_refl _, Nat.le_refl _⟩, ?_⟩
  intro p e R s m args below meth c H locs cells slots Q cc' pc L vs rest σ r σ' F hsz hFc hLc hok hS d hvl hE hrest hc1 hc2 kk
  obtain ⟨⟨a, rfl⟩, rfl, rfl⟩ := hE
  obtain ⟨hx, hb, hown, hts, hT, hB⟩ := id F
  have K := kk H locs hok hS
  rw [Nat.sub_self, Nat.sub_self, Nat.add_zero, Nat.add_zero] at K
  refine W.objInit (a := a) (rest := rest) hx hb hown (hts _ w1) (hts _ w2) (hts _ w3) rfl hsz.symm rfl d (Nat.le_trans hR.1 hFc) ?_ K
  have h8 := lv_room (m := m) (pc := pc) (ls := L) (rest := ([Value.ref a].reverse ++ rest)) hrest
  omega
theorem x_cwM (w1 : Cond.methodLink own k Lib.MathLoose.min_long.x ∈ xT) (w2 : Cond.static Lib.MathLoose.min_long.x ∈ xT) (w4 : Cond.initialized "java/lang/Math" ∈ xT) (w3 : Cond.code Lib.MathLoose.min_long.x Lib.MathLoose.min_long.code 4 (some .long) ∈ xT) (hR : 1 ≤ Fc ∧ 23 ≤ Lc) : x_mono x_min ∧ x_CW l D cA ad B own Fc Lc (.invokestatic k) 2 x_min := by
  refine ⟨fun vs σ r σ' h => by obtain ⟨_, _, -, -, rfl⟩ := h; exact ⟨Nat.le_refl _, Nat.le_refl _⟩, ?_⟩
  intro p e R s m args below meth c H locs cells slots Q cc' pc L vs rest σ r σ' F hsz hFc hLc hok hS d hvl hE hrest hc1 hc2 kk
  obtain ⟨a, b, rfl, rfl, rfl⟩ := hE
  obtain ⟨hx, hb, hown, hts, hT, hB⟩ := id F
  have K := kk H locs hok hS
  rw [Nat.sub_self, Nat.sub_self, Nat.add_zero, Nat.add_zero] at K
  rw [Nat.sub_self, Nat.add_zero] at hc1 hc2
  exact va_mmin_long (rest := rest) hx hb hsz hown (hts _ w1) (hts _ w2) (hts _ w4) (hts _ w3) (Nat.le_trans hR.1 hFc) (by omega) hc1 hc2 d K
end XCA
