/-! THE LAW: new items, over both -/
set_option maxRecDepth 20000 in
theorem s_boxJ {B : Nat} {ad : Nat → Nat} {V : List Value} {b it : Nat} {S : MS} {A M : Nat → Nat} {th : Int32} {y0 : Int64} {σ : xW} {K : xK} {x y : Int32} (j : JJ B ad V b it S S A M th y0 σ) (hit : it < 600) (h : ∀ A' σ', A' 0 = A 0 → JJ B ad V b (it + 1) (m_item S (okbox x y) (0, x, y, 0, 0)) S A' M th y0 σ' → K (some (.int (a_item S (okbox x y)))) σ') : x_cl (eX7_box B ad) [.ref (A 0), .int x, .int y] σ K := by
  obtain ⟨A', a1, a2, a3, a4, a5, a6, a7⟩ := j_new j (100 + S.1.1) (nu_i j.1)
  have t1 : okbox x y = true → itok S.2.1.1 (0, x, y, 0, 0) := fun hok => by
    unfold okbox at hok
    rw [Bool.and_eq_true] at hok
    have b1 := ok32_t hok.1
    have b2 := ok32_t hok.2
    exact tk_mk (by decide) (fun _ => ⟨b1.1, b1.2, b2.1, b2.2⟩) (fun q => absurd q (by decide)) (fun q => absurd q (by decide)) (fun q => absurd q (by decide)) fun q => absurd q (by decide)
  have t2 : ¬ (okbox x y = true ∧ S.1.1 < 400) → JJ B ad V b (it + 1) S S A M th y0 σ → K (some (.int (a_item S (okbox x y)))) σ := fun hc hT => h A σ rfl (by rw [item_f hc j.1]; exact hT)
  have t3 : okbox x y = true → S.1.1 < 400 → ∀ A' σ', A' 0 = A 0 → JJ B ad V b (it + 1) (m_add S (0, x, y, 0, 0)) S A' M th y0 σ' → K (some (.int (a_item S (okbox x y)))) σ' := fun hok hlt A1 σ1 e1 j1 => by
    refine h A1 σ1 e1 ?_
    have : m_item S (okbox x y) (0, x, y, 0, 0) = m_add S (0, x, y, 0, 0) := by unfold m_item; rw [hok]; rfl
    rw [this]; exact j1
  obtain ⟨n1, n2⟩ := j_add (K := K) (t := (0, x, y, 0, 0)) j hit (okbox x y) t1 t2 t3
  rw [← a5]
  exact s_boxC0 j.1 a1 a2 (fun _ => a3) a4 n1 (n2 A' a1 a2 a3 a5 a6 a7)
set_option maxRecDepth 20000 in
theorem s_kernJ {B : Nat} {ad : Nat → Nat} {V : List Value} {b it : Nat} {S : MS} {A M : Nat → Nat} {th : Int32} {y0 : Int64} {σ : xW} {K : xK} {x : Int32} (j : JJ B ad V b it S S A M th y0 σ) (hit : it < 600) (h : ∀ A' σ', A' 0 = A 0 → JJ B ad V b (it + 1) (m_item S (okkern x) (2, x, 0, 0, 0)) S A' M th y0 σ' → K (some (.int (a_item S (okkern x)))) σ') : x_cl (eX7_kern B ad) [.ref (A 0), .int x] σ K := by
  obtain ⟨A', a1, a2, a3, a4, a5, a6, a7⟩ := j_new j (100 + S.1.1) (nu_i j.1)
  have t1 : okkern x = true → itok S.2.1.1 (2, x, 0, 0, 0) := fun hok => by
    exact tk_mk (by decide) (fun q => absurd q (by decide)) (fun q => absurd q (by decide)) (fun _ => ok32_t hok) (fun q => absurd q (by decide)) fun q => absurd q (by decide)
  have t2 : ¬ (okkern x = true ∧ S.1.1 < 400) → JJ B ad V b (it + 1) S S A M th y0 σ → K (some (.int (a_item S (okkern x)))) σ := fun hc hT => h A σ rfl (by rw [item_f hc j.1]; exact hT)
  have t3 : okkern x = true → S.1.1 < 400 → ∀ A' σ', A' 0 = A 0 → JJ B ad V b (it + 1) (m_add S (2, x, 0, 0, 0)) S A' M th y0 σ' → K (some (.int (a_item S (okkern x)))) σ' := fun hok hlt A1 σ1 e1 j1 => by
    refine h A1 σ1 e1 ?_
    have : m_item S (okkern x) (2, x, 0, 0, 0) = m_add S (2, x, 0, 0, 0) := by unfold m_item; rw [hok]; rfl
    rw [this]; exact j1
  obtain ⟨n1, n2⟩ := j_add (K := K) (t := (2, x, 0, 0, 0)) j hit (okkern x) t1 t2 t3
  rw [← a5]
  exact s_kernC0 j.1 a1 a2 (fun _ => a3) a4 n1 (n2 A' a1 a2 a3 a5 a6 a7)
set_option maxRecDepth 20000 in
theorem s_penaltyJ {B : Nat} {ad : Nat → Nat} {V : List Value} {b it : Nat} {S : MS} {A M : Nat → Nat} {th : Int32} {y0 : Int64} {σ : xW} {K : xK} {x : Int32} (j : JJ B ad V b it S S A M th y0 σ) (hit : it < 600) (h : ∀ A' σ', A' 0 = A 0 → JJ B ad V b (it + 1) (m_item S (okpen x) (3, x, 0, 0, 0)) S A' M th y0 σ' → K (some (.int (a_item S (okpen x)))) σ') : x_cl (eX7_penalty B ad) [.ref (A 0), .int x] σ K := by
  obtain ⟨A', a1, a2, a3, a4, a5, a6, a7⟩ := j_new j (100 + S.1.1) (nu_i j.1)
  have t1 : okpen x = true → itok S.2.1.1 (3, x, 0, 0, 0) := fun hok => by
    exact tk_mk (by decide) (fun q => absurd q (by decide)) (fun q => absurd q (by decide)) (fun q => absurd q (by decide)) (fun _ => ok32_t hok) fun q => absurd q (by decide)
  have t2 : ¬ (okpen x = true ∧ S.1.1 < 400) → JJ B ad V b (it + 1) S S A M th y0 σ → K (some (.int (a_item S (okpen x)))) σ := fun hc hT => h A σ rfl (by rw [item_f hc j.1]; exact hT)
  have t3 : okpen x = true → S.1.1 < 400 → ∀ A' σ', A' 0 = A 0 → JJ B ad V b (it + 1) (m_add S (3, x, 0, 0, 0)) S A' M th y0 σ' → K (some (.int (a_item S (okpen x)))) σ' := fun hok hlt A1 σ1 e1 j1 => by
    refine h A1 σ1 e1 ?_
    have : m_item S (okpen x) (3, x, 0, 0, 0) = m_add S (3, x, 0, 0, 0) := by unfold m_item; rw [hok]; rfl
    rw [this]; exact j1
  obtain ⟨n1, n2⟩ := j_add (K := K) (t := (3, x, 0, 0, 0)) j hit (okpen x) t1 t2 t3
  rw [← a5]
  exact s_penaltyC0 j.1 a1 a2 (fun _ => a3) a4 n1 (n2 A' a1 a2 a3 a5 a6 a7)
set_option maxRecDepth 20000 in
theorem s_markJ {B : Nat} {ad : Nat → Nat} {V : List Value} {b it : Nat} {S : MS} {A M : Nat → Nat} {th : Int32} {y0 : Int64} {σ : xW} {K : xK} {x : Int32} (j : JJ B ad V b it S S A M th y0 σ) (hit : it < 600) (h : ∀ A' σ', A' 0 = A 0 → JJ B ad V b (it + 1) (m_item S (okmark x) (5, x, 0, 0, 0)) S A' M th y0 σ' → K (some (.int (a_item S (okmark x)))) σ') : x_cl (eX7_mark B ad) [.ref (A 0), .int x] σ K := by
  obtain ⟨A', a1, a2, a3, a4, a5, a6, a7⟩ := j_new j (100 + S.1.1) (nu_i j.1)
  have t1 : okmark x = true → itok S.2.1.1 (5, x, 0, 0, 0) := fun hok => by
    exact tk_mk (by decide) (fun q => absurd q (by decide)) (fun q => absurd q (by decide)) (fun q => absurd q (by decide)) (fun q => absurd q (by decide)) fun q => absurd q (by decide)
  have t2 : ¬ (okmark x = true ∧ S.1.1 < 400) → JJ B ad V b (it + 1) S S A M th y0 σ → K (some (.int (a_item S (okmark x)))) σ := fun hc hT => h A σ rfl (by rw [item_f hc j.1]; exact hT)
  have t3 : okmark x = true → S.1.1 < 400 → ∀ A' σ', A' 0 = A 0 → JJ B ad V b (it + 1) (m_add S (5, x, 0, 0, 0)) S A' M th y0 σ' → K (some (.int (a_item S (okmark x)))) σ' := fun hok hlt A1 σ1 e1 j1 => by
    refine h A1 σ1 e1 ?_
    have : m_item S (okmark x) (5, x, 0, 0, 0) = m_add S (5, x, 0, 0, 0) := by unfold m_item; rw [hok]; rfl
    rw [this]; exact j1
  obtain ⟨n1, n2⟩ := j_add (K := K) (t := (5, x, 0, 0, 0)) j hit (okmark x) t1 t2 t3
  rw [← a5]
  exact s_markC0 j.1 a1 a2 (fun _ => a3) a4 n1 (n2 A' a1 a2 a3 a5 a6 a7)
set_option maxRecDepth 20000 in
theorem s_glueJ {B : Nat} {ad : Nat → Nat} {V : List Value} {b it : Nat} {S : MS} {A M : Nat → Nat} {th : Int32} {y0 : Int64} {σ : xW} {K : xK} {x y z u : Int32} (j : JJ B ad V b it S S A M th y0 σ) (hit : it < 600) (h : ∀ A' σ', A' 0 = A 0 → JJ B ad V b (it + 1) (m_item S (okglue x y z u) (1, x, y, z, u)) S A' M th y0 σ' → K (some (.int (a_item S (okglue x y z u)))) σ') : x_cl (eX7_glue B ad) [.ref (A 0), .int x, .int y, .int z, .int u] σ K := by
  obtain ⟨A', a1, a2, a3, a4, a5, a6, a7⟩ := j_new j (100 + S.1.1) (nu_i j.1)
  have t1 : okglue x y z u = true → itok S.2.1.1 (1, x, y, z, u) := fun hok => by
    unfold okglue at hok
    rw [Bool.and_eq_true, Bool.and_eq_true, Bool.and_eq_true] at hok
    have b1 := ok32_t hok.1
    have b2 := ok32_t hok.2.1
    have b3 := ok32_t hok.2.2.1
    have b4 := ok32_t hok.2.2.2
    obtain ⟨k, k31, hk⟩ := i_nI b3.1
    have hk1 : z.toInt = (k : Int) := by rw [hk]; exact nI_toInt (by omega)
    exact tk_mk (by decide) (fun q => absurd q (by decide)) (fun _ => ⟨b1.1, b1.2, b2.1, b2.2, ⟨k, by omega, hk⟩, b4.1, b4.2⟩) (fun q => absurd q (by decide)) (fun q => absurd q (by decide)) fun q => absurd q (by decide)
  have t2 : ¬ (okglue x y z u = true ∧ S.1.1 < 400) → JJ B ad V b (it + 1) S S A M th y0 σ → K (some (.int (a_item S (okglue x y z u)))) σ := fun hc hT => h A σ rfl (by rw [item_f hc j.1]; exact hT)
  have t3 : okglue x y z u = true → S.1.1 < 400 → ∀ A' σ', A' 0 = A 0 → JJ B ad V b (it + 1) (m_add S (1, x, y, z, u)) S A' M th y0 σ' → K (some (.int (a_item S (okglue x y z u)))) σ' := fun hok hlt A1 σ1 e1 j1 => by
    refine h A1 σ1 e1 ?_
    have : m_item S (okglue x y z u) (1, x, y, z, u) = m_add S (1, x, y, z, u) := by unfold m_item; rw [hok]; rfl
    rw [this]; exact j1
  obtain ⟨n1, n2⟩ := j_add (K := K) (t := (1, x, y, z, u)) j hit (okglue x y z u) t1 t2 t3
  rw [← a5]
  exact s_glueC0 j.1 a1 a2 (fun _ => a3) a4 n1 (n2 A' a1 a2 a3 a5 a6 a7)
set_option maxRecDepth 20000 in
theorem s_insertJ {B : Nat} {ad : Nat → Nat} {V : List Value} {b it : Nat} {S : MS} {A M : Nat → Nat} {th : Int32} {y0 : Int64} {σ : xW} {K : xK} {c y : Int32} {u : Bool} (j : JJ B ad V b it S S A M th y0 σ) (hit : it < 600) (h : ∀ A' σ', A' 0 = A 0 → JJ B ad V b (it + 1) (m_insert S c y u) S A' M th y0 σ' → K (some (.int (a_insert S c y))) σ') : x_cl (eX7_insert B ad) [.ref (A 0), .int c, .int y, .int (bz u)] σ K := by
  obtain ⟨A', a1, a2, a3, a4, a5, a6, a7⟩ := j_new j (100 + S.1.1) (nu_i j.1)
  cases ho : okins S c with
  | false =>
    rw [← a5]
    have e1 : m_insert S c y u = S := by unfold m_insert; rw [ho]; rfl
    rw [e1] at h
    refine s_insertC0 j.1 a1 a2 (fun _ => a3) a4 (fun _ => h A σ rfl (js j hit)) fun z => ?_
    rw [ho] at z
    exact absurd z.1.1 (by decide)
  | true =>
    have e1 : m_insert S c y u = m_item S (ok32 y 1 1000000) (4, c, y, bz u, 0) := by unfold m_insert; rw [ho]; rfl
    have e2 : a_insert S c y = a_item S (ok32 y 1 1000000) := by unfold a_insert; rw [ho]; rfl
    rw [e1, e2] at h
    have t1 : ok32 y 1 1000000 = true → itok S.2.1.1 (4, c, y, bz u, 0) := fun hok => by
      have hc := of_decide_eq_true ho
      obtain ⟨k, k31, hk⟩ := i_nI hc.1
      have hk1 : c.toInt = (k : Int) := by rw [hk]; exact nI_toInt (by omega)
      have b1 := ok32_t hok
      exact tk_mk (by decide) (fun q => absurd q (by decide)) (fun q => absurd q (by decide)) (fun q => absurd q (by decide)) (fun q => absurd q (by decide)) fun _ => ⟨⟨k, by omega, hk⟩, b1.1, b1.2, bz01 u⟩
    have t2 : ¬ (ok32 y 1 1000000 = true ∧ S.1.1 < 400) → JJ B ad V b (it + 1) S S A M th y0 σ → K (some (.int (a_item S (ok32 y 1 1000000)))) σ := fun hc hT => h A σ rfl (by rw [item_f hc j.1]; exact hT)
    have t3 : ok32 y 1 1000000 = true → S.1.1 < 400 → ∀ A' σ', A' 0 = A 0 → JJ B ad V b (it + 1) (m_add S (4, c, y, bz u, 0)) S A' M th y0 σ' → K (some (.int (a_item S (ok32 y 1 1000000)))) σ' := fun hok hlt A1 σ1 e1 j1 => by
      refine h A1 σ1 e1 ?_
      have : m_item S (ok32 y 1 1000000) (4, c, y, bz u, 0) = m_add S (4, c, y, bz u, 0) := by unfold m_item; rw [hok]; rfl
      rw [this]; exact j1
    obtain ⟨n1, n2⟩ := j_add (K := K) (t := (4, c, y, bz u, 0)) j hit (ok32 y 1 1000000) t1 t2 t3
    rw [← a5]
    refine s_insertC0 j.1 a1 a2 (fun _ => a3) a4 (fun z => ?_) fun z => n2 A' a1 a2 a3 a5 a6 a7 ⟨z.1.2, z.2⟩
    rw [e2]
    exact n1 fun q => z ⟨⟨ho, q.1⟩, q.2⟩
theorem set_IC {S : MS} {g d t : Int32} : (m_set S g d t).1 = S.1 ∧ (m_set S g d t).2.1 = S.2.1 ∧ (m_set S g d t).2.2.2.2.2.2 = S.2.2.2.2.2.2 := by
  unfold m_set
  split
  · split <;> exact ⟨rfl, rfl, rfl⟩
  · exact ⟨rfl, rfl, rfl⟩
theorem s_setJ {B : Nat} {ad : Nat → Nat} {V : List Value} {b it : Nat} {S : MS} {A M : Nat → Nat} {th : Int32} {y0 : Int64} {σ : xW} {K : xK} {g d t : Int32} (j : JJ B ad V b it S S A M th y0 σ) (hit : it < 600) (h : ∀ A' σ', A' 0 = A 0 → JJ B ad V b (it + 1) (m_set S g d t) S A' M th y0 σ' → K (some (.int (if m_okset g d t then 1 else -2))) σ') : x_cl (eX7_set B ad) [.ref (A 0), .int g, .int d, .int t] σ K := by
  obtain ⟨e1, e2, e3⟩ := set_IC (S := S) (g := g) (d := d) (t := t)
  refine s_setC j.1 j.2.2.1.1 j.2.2.1.2.1 j.2.1 fun w' hw hf => h A (w', σ.2) rfl ?_
  refine jc (N' := σ.2.1) (sl' := σ.2.2) j hit (iv_set j.1) hw ?_ (fun c hc => Or.inl ⟨?_, rfl⟩) hf (Nat.le_refl _) (by rw [e3]; omega) (by rw [e3]; omega)
  · show adr B σ.2.1 A _ _ _
    rw [e1, e2, e3]; exact j.2.2.1
  · rw [e1, e2, e3] at hc; exact hc
theorem s_clsJ {B : Nat} {ad : Nat → Nat} {V : List Value} {b it : Nat} {S : MS} {A M : Nat → Nat} {th : Int32} {y0 : Int64} {σ : xW} {K : xK} {r f s p : Int32} (j : JJ B ad V b it S S A M th y0 σ) (hit : it < 600) (h : ∀ A' σ', A' 0 = A 0 → JJ B ad V b (it + 1) (m_cls S r f s p) S A' M th y0 σ' → K (some (.int (a_cls S r f s p))) σ') : x_cl (eX7_cls B ad) [.ref (A 0), .int r, .int f, .int s, .int p] σ K := by
  have h4 := j.1.1.2.1
  have hni := j.1.1.1
  obtain ⟨A', a1, a2, a3, a4, a5, a6, a7⟩ := j_new j (20 + S.2.1.1) (by unfold us; omega)
  rw [← a5]
  refine s_clsC0 j.1 a1 a2 (fun _ => a3) a4 (fun hno => ?_) fun hlt hok w' hw hf => ?_
  · have e : m_cls S r f s p = S := by unfold m_cls; rw [if_neg (fun z => by rw [hno] at z; exact z)]
    rw [e] at h
    exact h A σ rfl (js j hit)
  · have e : m_cls S r f s p = (S.1, (S.2.1.1 + 1, fun i => if i = S.2.1.1 then (r, f, s, p) else S.2.1.2 i), S.2.2) := by
      unfold m_cls; rw [if_pos ⟨hok, by omega⟩]
    have hus : ∀ c, us (m_cls S r f s p).1.1 (m_cls S r f s p).2.1.1 (m_cls S r f s p).2.2.2.2.2.2.length c ↔ us S.1.1 S.2.1.1 S.2.2.2.2.2.2.length c ∨ c = 20 + S.2.1.1 := fun c => by
      rw [e]
      unfold us
      dsimp only
      omega
    have e3 : (m_cls S r f s p).2.2.2.2.2.2 = S.2.2.2.2.2.2 := by rw [e]
    refine h A' _ a5 (jc j hit (iv_cls j.1) hw (a7 _ _ _ hus) (fun c hc => ?_) (fun q h1 h2 => hf q h1 fun c hc => by rw [a6 c hc]; exact h2 c hc) (Nat.le_succ _) (by rw [e3]; omega) (by rw [e3]; omega))
    rcases (hus c).mp hc with z | z
    · exact Or.inl ⟨z, a6 c z⟩
    · exact Or.inr (by rw [z, a3]; exact Nat.le_refl _)
/-- run: in so many steps -/
theorem s_runJ {B : Nat} {ad : Nat → Nat} {V : List Value} {b it : Nat} {S : MS} {A M : Nat → Nat} {th : Int32} {y0 : Int64} {σ : xW} {K : xK} (j : JJ B ad V b it S S A M th y0 σ) (hit : it < 600) (h : ∀ n A' σ', A' 0 = A 0 → (∀ k, k < n → okR (m_iter k S) ∧ m_stop (m_iter k S) = false) → okR (m_iter n S) → m_stop (m_iter n S) = true → JJ B ad V b (it + 1) (m_iter n S) S A' M th y0 σ' → K (some (.int (nI (m_iter n S).2.2.2.2.2.2.length - nI S.2.2.2.2.2.2.length))) σ') : x_cl (eX7_run B ad) [.ref (A 0)] σ K := by
  obtain ⟨n, n1, n2, n3, n4⟩ := run_ok 24460 S j.1 (phi_le j.1)
  have hBN : B ≤ σ.2.1 := by have := j.2.2.2.2.2.2.2.2.2.2.2.2.2.2.2.1; omega
  refine s_runC (n := n) j.2.2.2.2.2.2.2.2.2.1 (by omega) j.1 j.2.2.1 hBN j.2.2.2.2.2.2.2.2.1 j.2.1 (fun k hk => (n2 k hk).2) n4 fun w' N' sl' A' hw ha ha0 hold hf hN hsl hle => ?_
  exact h n A' _ ha0 (fun k hk => ⟨iv_okR (n2 k hk).1, (n2 k hk).2⟩) (iv_okR n3) n4 (jc j hit n3 hw ha hold hf (by omega) (by omega) (by omega))
theorem s_checkJ {B : Nat} {ad : Nat → Nat} {V : List Value} {b it : Nat} {S : MS} {A M : Nat → Nat} {th : Int32} {y0 : Int64} {σ : xW} {K : xK} (j : JJ B ad V b it S S A M th y0 σ) (hit : it < 600) (h : ∀ σ', JJ B ad V b (it + 1) S S A M th y0 σ' → K (some (.int 1)) σ') : x_cl (eX7_check B ad) [.ref (A 0)] σ K := by
  refine s_checkC j.1 j.2.2.1.1 j.2.2.1.2.1 j.2.2.2.2.2.2.2.2.1 (j_far j) j.2.1 fun w' hw hf => h (w', σ.2) ?_
  exact jc (N' := σ.2.1) (sl' := σ.2.2) j hit j.1 hw j.2.2.1 (fun c hc => Or.inl ⟨hc, rfl⟩) hf (Nat.le_refl _) (by omega) (by omega)
