/-! reads and writes of cells -/
section XM
variable {p : Program} {l : Launch} {e : Env} {R : Room} {s : State} {m : MethodId} {args : Array Value} {below : List Frame} {meth : Method} {c : Code} {H : Heap} {locs : List Loc} {cells slots : Nat} {Q : State → Prop} {cc : ByteArray} {own : String} {D : va_G} {cA ad : Nat → Nat} {B : Nat} {cx : xC} {i : Instr} {n pc pc' : Nat} {L : Array Slot} {ls st ls' st' : List Value} {σ σ' : xW} {ini : Bool}
/-- an array's cell, what it holds, that it is one -/
theorem xm_arr (hT : x_tk D cA ad B s s.heap) {a t : Nat} {L : List Value} (h : x_at D cA B s a (t, L) H) (h1 : 100 ≤ t) (h2 : t < 106) : H[a]? = some (x_arr (cA t) L) ∧ s.isArrayOf (x_arr (cA t) L) (x_ty t) ∧ (x_arr (cA t) L).vm ≠ .unknown := by
  rcases h with ⟨h3, -⟩ | ⟨-, -, h3⟩ | ⟨h3, -⟩ | ⟨h3, -⟩
  · have h3 : t < 100 := h3; omega
  · refine ⟨h3, ?_, fun q => by cases q⟩
    rw [x_arr_V]
    exact (hT.2.1 t h1 h2).1 _ _
  · have h3 : t = 106 := h3; omega
  · have h3 : t = 107 := h3; omega
theorem xm_scr {a : Nat} {L : List Value} (h : x_at D cA B s a (106, L) H) : ∃ cell : Cell, H[a]? = some cell ∧ s.isArrayOf cell .int ∧ cell.vm ≠ .unknown ∧ cell.slots = L.toArray := by
  rcases h with ⟨h3, -⟩ | ⟨-, h3, -⟩ | ⟨-, h3⟩ | ⟨h3, -⟩
  · exact absurd h3 (by simp)
  · exact absurd h3 (by simp)
  · exact h3
  · exact absurd h3 (by simp)
theorem xm_obj {a t : Nat} {fs : List Value} (h : x_at D cA B s a (t, fs) H) (h1 : t < 100) : va_at D vwCl (a, .inr (t, fs)) H := by
  rcases h with ⟨-, h3⟩ | ⟨h3, -⟩ | ⟨h3, -⟩ | ⟨h3, -⟩
  · exact h3
  · have h3 : 100 ≤ t := h3; omega
  · have h3 : t = 106 := h3; omega
  · have h3 : t = 107 := h3; omega
theorem xm_one {a t : Nat} {fs : List Value} (h : va_at D vwCl (a, .inr (t, fs)) H) : va_P D vwCl [(a, .inr (t, fs))] H := by
  intro k q hk
  match k, hk with
  | 0, hk => cases hk; exact h
  | k + 1, hk => simp at hk
theorem xm_D {A : Nat → Prop} {a : Nat} {E : va_E} (ha : A a) : va_D A [(a, E)] := by
  refine ⟨fun i j x y hi hj _ => ?_, fun k q hk => ?_⟩
  · have h1 : i < 1 := (List.getElem?_eq_some_iff.mp hi).1
    have h2 : j < 1 := (List.getElem?_eq_some_iff.mp hj).1
    omega
  · match k, hk with
    | 0, hk => cases hk; exact ha
    | k + 1, hk => simp at hk
theorem x_kgo (i : Nat) (hi : i < 6) : ([0, 1, 1, 1, 0, 0] : List Int32).getD i 0 = (if 1 ≤ i ∧ i ≤ 3 then 1 else 0) := by
  match i, hi with
  | 0, _ => rfl
  | 1, _ => rfl
  | 2, _ => rfl
  | 3, _ => rfl
  | 4, _ => rfl
  | 5, _ => rfl
theorem xm_getfield (F : x_fx p s m args c cc own D cA ad B) (hs : xv_sta own ad cx) (hf : xv_fld own ini cx) (hok : x_ok D cA B s σ H) (hS : va_S (fun q => B ≤ q) s.heap H locs) {k : Nat} (d : decode cc pc = .ok (.getfield k, 3)) (h : x_mem B cx (.getfield k) st σ st' σ') (kk : σ' = σ → W p l e R s m args below meth c H locs cells slots Q (F0 m (pc + 3) L st')) : W p l e R s m args below meth c H locs cells slots Q (F0 m pc L st) := by
  obtain ⟨hx, hb, hown, hts, hT, hB⟩ := F
  obtain ⟨a, r, t, j, ty, wr, fs, v, rfl, h1, h2, h3, rfl, rfl⟩ := h
  rcases hf _ _ _ _ _ h1 with ⟨q, g1, g2, g3, g4, g5, g6⟩ | ⟨rfl, rfl, -, g4⟩
  · rcases h2 with ⟨-, h2⟩ | ⟨h2, -⟩
    · exact va_get (C := q.1) (T := q.2.1) (N := q.2.2) (tys := []) hx hb hts (x_cls g1).1 hown hT.1 (xm_one (xm_obj (hok.1 a _ h2) g2)) 0 rfl g1 j g3 (hts _ g4) (fun _ h9 => h9) h3 d (kk rfl)
    · omega
  · rcases h2 with ⟨h2, -⟩ | ⟨-, i, hi, h5, rfl⟩
    · exact absurd rfl h2
    · obtain ⟨i', hi', e7, -, e8⟩ := hs _ _ h5
      have e9 : i' = i := by have := e8 (Nat.le_add_right _ _); omega
      subst e9
      cases e7
      cases h3
      have hz := ((hT.2.2.2.2.1.1 i' hi).2.2 _ List.mem_cons_self).kept hS.2.1
      have hg := x_kgo i' hi
      obtain ⟨cf, kf, fi, f, cell, e1, e2, e3, e4, e5, -⟩ := hz
      dsimp only at e5
      rw [hg] at e5
      exact W.getf hx hb hown (hts _ g4) e1 e2 e3 e4 e5 rfl rfl d (kk rfl)
theorem xm_putfield (F : x_fx p s m args c cc own D cA ad B) (hf : xv_fld own ini cx) (hini : ini = true → meth.name = "<init>") (hok : x_ok D cA B s σ H) (hS : va_S (fun q => B ≤ q) s.heap H locs) {k : Nat} (d : decode cc pc = .ok (.putfield k, 3)) (h : x_mem B cx (.putfield k) st σ st' σ') (kk : ∀ H1 locs1, x_ok D cA B s σ' H1 → va_S (fun q => B ≤ q) s.heap H1 locs1 → σ'.2 = σ.2 → W p l e R s m args below meth c H1 locs1 cells slots Q (F0 m (pc + 3) L st')) : W p l e R s m args below meth c H locs cells slots Q (F0 m pc L st) := by
  obtain ⟨hx, hb, hown, hts, hT, hB⟩ := F
  obtain ⟨a, v, t, j, ty, fs, rfl, h1, h2, h3, h4, h5, h6, rfl⟩ := h
  have hat := xm_obj (hok.1 a _ h2) h4
  rcases hf _ _ _ _ _ h1 with ⟨q, g1, g2, g3, g4, g5, g6⟩ | ⟨rfl, -⟩
  · obtain ⟨n1, n2⟩ := x_fit_ok h6
    obtain ⟨c1, ⟨ty0, c2⟩, c3⟩ := x_cls g1
    have hend : ∀ (H1 : Heap) (locs1 : List Loc), va_P D vwCl (([(a, .inr (t, fs))] : va_W).set 0 (a, .inr (t, fs.set j v))) H1 → (H1.size = H.size ∧ ∀ q, q ≠ a → H1[q]? = H[q]?) → va_S (fun q => B ≤ q) s.heap H1 locs1 → W p l e R s m args below meth c H1 locs1 cells slots Q (F0 m (pc + 3) L st') := by
      intro H1 locs1 hP hq hS1
      exact kk H1 locs1 (x_ok_put hok (Or.inl ⟨h4, hP 0 _ rfl⟩) hq.1 hq.2) hS1 rfl
    -- the kit's rule keeps what isn't written silently: take its proof's own step
    obtain ⟨r, e1, cell, q1, q2, q3, q4⟩ := hat
    have hr : r = q := Option.some.inj (e1.symm.trans g1)
    subst hr
    obtain ⟨hSl, hfc, kC, hkC, hkind⟩ := hT.1.1 t _ g1
    obtain ⟨cf, kf, fi, f, hi, hsl⟩ := hSl j g3
    have hap := va_apart (own := own) (tys := []) hts c1 ty0 c2 c3 hT.1 g1
    have hst := (u_facts hfc hkC (u_lays hts c1 g3) hi).1
    have hlay := hts _ (c1 _ (u_in_lay g3))
    unfold u_lay at hlay
    have fin : ∀ H' : Heap, H'[a]? = some (cell.setSlot f.slot v) → H'.size = H.size → (∀ q, q ≠ a → H'[q]? = H[q]?) → W p l e R s m args below meth c H' (locs ++ [⟨a, f.slot⟩]) cells slots Q (F0 m (pc + 3) L st') := by
      intro H' f1 f2 f3
      rw [hsl] at f1 ⊢
      refine hend H' _ ?_ ⟨f2, f3⟩ (hS.put f2 f3 h5)
      exact xm_one ⟨_, g1, t_OB.to (V := updV (vp_V fs) j v) ⟨_, f1, q2, q3, t_set q4 hap g3 v⟩ (fun i _ => vp_updV_set h3 v i)⟩
    cases hfb : (r.2.1 j).2.2.2 with
    | false =>
      rw [if_neg (by rw [hfb]; decide)] at hlay
      have h7 := u_store hfc hkC hkind hlay hi g5 n1 n2
      exact W.putK hx hb (f := f) ⟨hown, hts _ g4, ⟨_, _, _, hi⟩, hst⟩ (by rw [q2]; exact h7) q1 q3 (by rw [hsl]; exact k2_hasslot (q4 j g3)) rfl rfl d fin
    | true =>
      rw [if_pos hfb] at hlay
      rcases g6 rfl with g7 | ⟨g7, g8⟩
      · rw [hfb] at g7; cases g7
      have hcf : m.cls = cf := by
        obtain ⟨_, _, c', _, _, _, -, -, hf', -, -, -, hown2, -⟩ := Cond.laysFinal_spec hlay
        have e1 : c' = cf := by have := hi.symm.trans hf'; simp at this; exact this.1.symm
        rw [g8] at hown2
        rw [← e1]; exact Option.some.inj (hown.symm.trans hown2)
      have h7 := u_fits hfc hkC hkind (Or.inr hlay) hi g5 n1 n2
      exact W.putFinK hx hb hown (hts _ g4) hi hst hcf (hini g7) (by rw [q2]; exact h7) q1 q3 (by rw [hsl]; exact k2_hasslot (q4 j g3)) rfl rfl d fin
  · exact absurd h4 (by decide)
/-- a new cell behind the others -/
theorem xm_S (hS : va_S (fun q => B ≤ q) s.heap H locs) {H1 : Heap} (hz : H1.size = H.size + 1) (hq : ∀ q : Nat, q < H.size → H1[q]? = H[q]?) : va_S (fun q => B ≤ q) s.heap H1 locs :=
  ⟨by rw [hz]; exact Nat.le_succ_of_le hS.1, fun q h1 h2 => (hq q (Nat.lt_of_lt_of_le h1 hS.1)).trans (hS.2.1 q h1 h2), hS.2.2⟩
theorem xm_new (F : x_fx p s m args c cc own D cA ad B) (hv : xv_new own cx) (hok : x_ok D cA B s σ H) (hS : va_S (fun q => B ≤ q) s.heap H locs) {k : Nat} (d : decode cc pc = .ok (.new k, 3)) (h : x_mem B cx (.new k) st σ st' σ') (hc1 : cells + (σ'.2.1 - σ.2.1) ≤ R.cells) (hc2 : slots + (σ'.2.2 - σ.2.2) ≤ R.slots) (kk : ∀ H1, x_ok D cA B s σ' H1 → va_S (fun q => B ≤ q) s.heap H1 locs → W p l e R s m args below meth c H1 locs (cells + (σ'.2.1 - σ.2.1)) (slots + (σ'.2.2 - σ.2.2)) Q (F0 m (pc + 3) L st')) : W p l e R s m args below meth c H locs cells slots Q (F0 m pc L st) := by
  obtain ⟨hx, hb, hown, hts, hT, hB⟩ := F
  obtain ⟨t, fs, h1, rfl, rfl⟩ := h
  obtain ⟨q, ty, g1, g2, g3, g4, g5, g6, g7, g8⟩ := hv _ _ _ h1
  have e1 : (x_up σ.1 σ.2.1 (t, fs), σ.2.1 + 1, σ.2.2 + fs.length).2.1 - σ.2.1 = 1 := by show σ.2.1 + 1 - σ.2.1 = 1; omega
  have e2 : (x_up σ.1 σ.2.1 (t, fs), σ.2.1 + 1, σ.2.2 + fs.length).2.2 - σ.2.2 = q.2.2 := by show σ.2.2 + fs.length - σ.2.2 = q.2.2; omega
  rw [e1] at hc1 kk
  rw [e2] at hc2 kk
  have hKn := hT.1.1 t _ g1
  refine W.newcK hx hb hown (hts _ g6) (hts _ g7) (hts _ g8) rfl d hc1 hc2 hKn.2.1 rfl fun H1 kC f1 f2 f3 f4 => ?_
  have hb1 := u_born (o := H.size) ty hts (x_cls g1).1 hKn f1 f2 g4
  have := kk H1 (x_ok_new hok (Or.inl ⟨g2, q, g1, hb1.to g5⟩) f3 f4) (xm_S hS f3 f4)
  rw [← hok.2] at this
  exact this
theorem xm_newarray (F : x_fx p s m args c cc own D cA ad B) (hok : x_ok D cA B s σ H) (hS : va_S (fun q => B ≤ q) s.heap H locs) {at_ : ArrayType} (d : decode cc pc = .ok (.newarray at_, 2)) (h : x_mem B cx (.newarray at_) st σ st' σ') (hc1 : cells + (σ'.2.1 - σ.2.1) ≤ R.cells) (hc2 : slots + (σ'.2.2 - σ.2.2) ≤ R.slots) (kk : ∀ H1, x_ok D cA B s σ' H1 → va_S (fun q => B ≤ q) s.heap H1 locs → W p l e R s m args below meth c H1 locs (cells + (σ'.2.1 - σ.2.1)) (slots + (σ'.2.2 - σ.2.2)) Q (F0 m (pc + 2) L st')) : W p l e R s m args below meth c H locs cells slots Q (F0 m pc L st) := by
  obtain ⟨hx, hb, hown, hts, hT, hB⟩ := F
  obtain ⟨t, dv, k, r, h1, rfl, h2, h3, rfl, rfl⟩ := h
  have e1 : (x_up σ.1 σ.2.1 (t, List.replicate k.toInt.toNat dv), σ.2.1 + 1, σ.2.2 + k.toInt.toNat).2.1 - σ.2.1 = 1 := by show σ.2.1 + 1 - σ.2.1 = 1; omega
  have e2 : (x_up σ.1 σ.2.1 (t, List.replicate k.toInt.toNat dv), σ.2.1 + 1, σ.2.2 + k.toInt.toNat).2.2 - σ.2.2 = k.toNatClampNeg := by show σ.2.2 + k.toInt.toNat - σ.2.2 = _; rw [x_clamp]; omega
  rw [e1] at hc1 kk
  rw [e2] at hc2 kk
  have hty : 100 ≤ t ∧ t < 103 ∧ newarray.typeOf at_ = x_ty t ∧ defaultValue (newarray.typeOf at_) = dv ∧ Cond.arrayClass (newarray.typeOf at_) ∈ xT ∧ componentBytes (newarray.typeOf at_) ≤ 8 ∧ (va_RA s (cA t) (x_ty t) → s.vm.findClass ("[" ++ (newarray.typeOf at_).toString) = some (cA t)) := by
    cases at_ <;> simp only [x_nak] at h1 <;> cases h1
    · exact ⟨by decide, by decide, rfl, rfl, x_prim.2.2, by decide, fun q => q⟩
    · exact ⟨by decide, by decide, rfl, rfl, x_prim.1, by decide, fun q => q⟩
    · exact ⟨by decide, by decide, rfl, rfl, x_prim.2.1, by decide, fun q => q⟩
  obtain ⟨t1, t2, t3, t4, t5, t6, t7⟩ := hty
  have hb8 : k.toNatClampNeg * componentBytes (newarray.typeOf at_) ≤ 536870912 := by
    rw [x_clamp]
    have : k.toInt.toNat ≤ 60000000 := by omega
    calc k.toInt.toNat * componentBytes (newarray.typeOf at_) ≤ 60000000 * 8 := Nat.mul_le_mul this t6
      _ ≤ 536870912 := by decide
  refine W.newa hx hb (hts _ t5) rfl d rfl (by rw [x_lt0]; exact h2) hb8 hc1 hc2 fun cA' kA comp f1 f2 f3 => ?_
  have hcA : cA' = cA t := Option.some.inj (f1.symm.trans (t7 (hT.2.1 t t1 (by omega)).2))
  subst hcA
  rw [t4]
  have hnew : ({ cls := cA t, slots := Array.replicate k.toNatClampNeg dv, vm := .none } : Cell) = x_arr (cA t) (List.replicate k.toInt.toNat dv) := by
    unfold x_arr
    rw [x_clamp, List.toArray_replicate]
  rw [hnew]
  generalize hH1 : H.push (x_arr (cA t) (List.replicate k.toInt.toNat dv)) = H1
  have z1 : H1.size = H.size + 1 := by rw [← hH1, Array.size_push]
  have g1 : H1[H.size]? = some (x_arr (cA t) (List.replicate k.toInt.toNat dv)) := by rw [← hH1, Array.getElem?_push_size]
  have o1 : ∀ q : Nat, q < H.size → H1[q]? = H[q]? := fun q hq => by rw [← hH1, Array.getElem?_push, if_neg (Nat.ne_of_lt hq)]
  have := kk H1 (x_ok_new hok (Or.inr (Or.inl ⟨t1, by show t < 106; omega, g1⟩)) z1 o1) (xm_S hS z1 o1)
  rw [← hok.2] at this
  exact this
theorem xm_anewarray (F : x_fx p s m args c cc own D cA ad B) (hv : xv_anew own cx) (hok : x_ok D cA B s σ H) (hS : va_S (fun q => B ≤ q) s.heap H locs) {j : Nat} (d : decode cc pc = .ok (.anewarray j, 3)) (h : x_mem B cx (.anewarray j) st σ st' σ') (hc1 : cells + (σ'.2.1 - σ.2.1) ≤ R.cells) (hc2 : slots + (σ'.2.2 - σ.2.2) ≤ R.slots) (kk : ∀ H1, x_ok D cA B s σ' H1 → va_S (fun q => B ≤ q) s.heap H1 locs → W p l e R s m args below meth c H1 locs (cells + (σ'.2.1 - σ.2.1)) (slots + (σ'.2.2 - σ.2.2)) Q (F0 m (pc + 3) L st')) : W p l e R s m args below meth c H locs cells slots Q (F0 m pc L st) := by
  obtain ⟨hx, hb, hown, hts, hT, hB⟩ := F
  obtain ⟨t, k, r, h1, rfl, h2, h3, rfl, rfl⟩ := h
  obtain ⟨t1, t2, C, t3, t4, t5⟩ := hv _ _ h1
  have e1 : (x_up σ.1 σ.2.1 (t, List.replicate k.toInt.toNat Value.null), σ.2.1 + 1, σ.2.2 + k.toInt.toNat).2.1 - σ.2.1 = 1 := by show σ.2.1 + 1 - σ.2.1 = 1; omega
  have e2 : (x_up σ.1 σ.2.1 (t, List.replicate k.toInt.toNat Value.null), σ.2.1 + 1, σ.2.2 + k.toInt.toNat).2.2 - σ.2.2 = k.toNatClampNeg := by show σ.2.2 + k.toInt.toNat - σ.2.2 = _; rw [x_clamp]; omega
  rw [e1] at hc1 kk
  rw [e2] at hc2 kk
  refine W.anew hx hb hown (hts _ t4) (va_AO.use (hT.2.2.1 C t5)) rfl d rfl (by rw [x_lt0]; exact h2) (by rw [x_clamp]; omega) hc1 hc2 fun cA' kA comp f1 f2 f3 f4 => ?_
  have hra := (hT.2.1 t (by omega) t2).2
  rw [t3] at hra
  obtain ⟨-, -, -, -, -, f5⟩ := hra
  have hcA : cA' = cA t := Option.some.inj (f1.symm.trans f5)
  subst hcA
  have hnew : ({ cls := cA t, slots := Array.replicate k.toNatClampNeg .null, vm := .none } : Cell) = x_arr (cA t) (List.replicate k.toInt.toNat .null) := by
    unfold x_arr
    rw [x_clamp, List.toArray_replicate]
  rw [hnew]
  generalize hH1 : H.push (x_arr (cA t) (List.replicate k.toInt.toNat Value.null)) = H1
  have z1 : H1.size = H.size + 1 := by rw [← hH1, Array.size_push]
  have g1 : H1[H.size]? = some (x_arr (cA t) (List.replicate k.toInt.toNat .null)) := by rw [← hH1, Array.getElem?_push_size]
  have o1 : ∀ q : Nat, q < H.size → H1[q]? = H[q]? := fun q hq => by rw [← hH1, Array.getElem?_push, if_neg (Nat.ne_of_lt hq)]
  have := kk H1 (x_ok_new hok (Or.inr (Or.inl ⟨by show 100 ≤ t; omega, t2, g1⟩)) z1 o1) (xm_S hS z1 o1)
  rw [← hok.2] at this
  exact this
theorem xm_alen (F : x_fx p s m args c cc own D cA ad B) (hok : x_ok D cA B s σ H) (d : decode cc pc = .ok (.arraylength, 1)) (h : x_mem B cx .arraylength st σ st' σ') (kk : σ' = σ → W p l e R s m args below meth c H locs cells slots Q (F0 m (pc + 1) L st')) : W p l e R s m args below meth c H locs cells slots Q (F0 m pc L st) := by
  obtain ⟨hx, hb, hown, hts, hT, hB⟩ := F
  obtain ⟨a, r, t, V, rfl, h1, h2, h3, rfl, rfl⟩ := h
  have hat := hok.1 a _ h1
  by_cases ht : t = 106
  · subst ht
    obtain ⟨cell, g1, g2, g3, g4⟩ := xm_scr hat
    exact W.alen hx hb g1 g2 (by rw [g4]; simp) rfl rfl d (kk rfl)
  · obtain ⟨g1, g2, g3⟩ := xm_arr hT hat h2 (by omega)
    exact W.alen hx hb g1 g2 (by simp [x_arr]) rfl rfl d (kk rfl)
theorem xm_iaload (F : x_fx p s m args c cc own D cA ad B) (hok : x_ok D cA B s σ H) (d : decode cc pc = .ok (.iaload, 1)) (h : x_mem B cx .iaload st σ st' σ') (kk : σ' = σ → W p l e R s m args below meth c H locs cells slots Q (F0 m (pc + 1) L st')) : W p l e R s m args below meth c H locs cells slots Q (F0 m pc L st) := by
  obtain ⟨hx, hb, hown, hts, hT, hB⟩ := F
  obtain ⟨j, a, r, t, V, v, rfl, h1, h2, h3, rfl, rfl⟩ := h
  have hat := hok.1 a _ h1
  have hin := (x_ix_in (by rw [h3]; rfl)).1
  rcases h2 with rfl | rfl
  · obtain ⟨g1, g2, g3⟩ := xm_arr hT hat (by decide) (by decide)
    exact W.iald hx hb g1 g2 g3 (by simpa [x_arr] using hin) (by simpa [x_arr] using x_ix_at h3) rfl rfl d (kk rfl)
  · obtain ⟨cell, g1, g2, g3, g4⟩ := xm_scr hat
    exact W.iald hx hb g1 g2 g3 (by rw [g4]; simpa using hin) (by rw [g4]; simpa using x_ix_at h3) rfl rfl d (kk rfl)
theorem xm_laload (F : x_fx p s m args c cc own D cA ad B) (hok : x_ok D cA B s σ H) (d : decode cc pc = .ok (.laload, 1)) (h : x_mem B cx .laload st σ st' σ') (kk : σ' = σ → W p l e R s m args below meth c H locs cells slots Q (F0 m (pc + 1) L st')) : W p l e R s m args below meth c H locs cells slots Q (F0 m pc L st) := by
  obtain ⟨hx, hb, hown, hts, hT, hB⟩ := F
  obtain ⟨j, a, r, V, v, rfl, h1, h3, rfl, rfl⟩ := h
  have hin := (x_ix_in (by rw [h3]; rfl)).1
  obtain ⟨g1, g2, g3⟩ := xm_arr hT (hok.1 a _ h1) (by decide) (by decide)
  exact W.lald hx hb g1 g2 g3 (by simpa [x_arr] using hin) (by simpa [x_arr] using x_ix_at h3) rfl rfl d (kk rfl)
theorem xm_baload (F : x_fx p s m args c cc own D cA ad B) (hok : x_ok D cA B s σ H) (d : decode cc pc = .ok (.baload, 1)) (h : x_mem B cx .baload st σ st' σ') (kk : σ' = σ → W p l e R s m args below meth c H locs cells slots Q (F0 m (pc + 1) L st')) : W p l e R s m args below meth c H locs cells slots Q (F0 m pc L st) := by
  obtain ⟨hx, hb, hown, hts, hT, hB⟩ := F
  obtain ⟨j, a, r, V, v, rfl, h1, h3, rfl, rfl⟩ := h
  have hin := (x_ix_in (by rw [h3]; rfl)).1
  obtain ⟨g1, g2, g3⟩ := xm_arr hT (hok.1 a _ h1) (by decide) (by decide)
  exact W.zald hx hb g1 g2 g3 (by simpa [x_arr] using hin) (by simpa [x_arr] using x_ix_at h3) rfl rfl d (kk rfl)
theorem xm_aaload (F : x_fx p s m args c cc own D cA ad B) (hok : x_ok D cA B s σ H) (d : decode cc pc = .ok (.aaload, 1)) (h : x_mem B cx .aaload st σ st' σ') (kk : σ' = σ → W p l e R s m args below meth c H locs cells slots Q (F0 m (pc + 1) L st')) : W p l e R s m args below meth c H locs cells slots Q (F0 m pc L st) := by
  obtain ⟨hx, hb, hown, hts, hT, hB⟩ := F
  obtain ⟨j, a, r, t, V, v, rfl, h1, h2, h3, rfl, rfl⟩ := h
  have hin := (x_ix_in (by rw [h3]; rfl)).1
  have h2' : 100 ≤ t ∧ t < 106 ∧ (x_ty t).isReference = true := by rcases h2 with rfl | rfl | rfl <;> exact ⟨by decide, by decide, rfl⟩
  obtain ⟨g1, g2, g3⟩ := xm_arr hT (hok.1 a _ h1) h2'.1 h2'.2.1
  exact W.aald hx hb g1 g2 h2'.2.2 g3 (by simpa [x_arr] using hin) (by simpa [x_arr] using x_ix_at h3) rfl rfl d (kk rfl)
theorem xm_end {a t : Nat} {V : List Value} {v : Value} {j : Int32} (hok : x_ok D cA B s σ H) (hS : va_S (fun q => B ≤ q) s.heap H locs) (h1 : 100 ≤ t) (h2 : t < 106) (hB : B ≤ a) {H1 : Heap} (e1 : H1[a]? = some ((x_arr (cA t) V).setSlot j.toNatClampNeg v)) (e2 : H1.size = H.size) (e3 : ∀ q, q ≠ a → H1[q]? = H[q]?) : x_ok D cA B s (x_up σ.1 a (t, V.set j.toInt.toNat v), σ.2) H1 ∧ va_S (fun q => B ≤ q) s.heap H1 (locs ++ [⟨a, j.toNatClampNeg⟩]) := by
  rw [x_arr_set, x_clamp] at e1
  exact ⟨x_ok_put hok (Or.inr (Or.inl ⟨h1, h2, e1⟩)) e2 e3, hS.put e2 e3 hB⟩
theorem xm_iastore (F : x_fx p s m args c cc own D cA ad B) (hok : x_ok D cA B s σ H) (hS : va_S (fun q => B ≤ q) s.heap H locs) (d : decode cc pc = .ok (.iastore, 1)) (h : x_mem B cx .iastore st σ st' σ') (kk : ∀ H1 locs1, x_ok D cA B s σ' H1 → va_S (fun q => B ≤ q) s.heap H1 locs1 → σ'.2 = σ.2 → W p l e R s m args below meth c H1 locs1 cells slots Q (F0 m (pc + 1) L st')) : W p l e R s m args below meth c H locs cells slots Q (F0 m pc L st) := by
  obtain ⟨hx, hb, hown, hts, hT, hB⟩ := F
  obtain ⟨x, j, a, V, rfl, h1, h2, h3, rfl⟩ := h
  obtain ⟨g1, g2, g3⟩ := xm_arr hT (hok.1 a _ h1) (by decide) (by decide)
  refine W.iast hx hb g1 g2 g3 (by simpa [x_arr] using (x_ix_in h2).1) rfl rfl d fun H1 e1 e2 e3 => ?_
  obtain ⟨k1, k2⟩ := xm_end hok hS (by decide) (by decide) h3 e1 e2 e3
  exact kk H1 _ k1 k2 rfl
theorem xm_lastore (F : x_fx p s m args c cc own D cA ad B) (hok : x_ok D cA B s σ H) (hS : va_S (fun q => B ≤ q) s.heap H locs) (d : decode cc pc = .ok (.lastore, 1)) (h : x_mem B cx .lastore st σ st' σ') (kk : ∀ H1 locs1, x_ok D cA B s σ' H1 → va_S (fun q => B ≤ q) s.heap H1 locs1 → σ'.2 = σ.2 → W p l e R s m args below meth c H1 locs1 cells slots Q (F0 m (pc + 1) L st')) : W p l e R s m args below meth c H locs cells slots Q (F0 m pc L st) := by
  obtain ⟨hx, hb, hown, hts, hT, hB⟩ := F
  obtain ⟨x, j, a, V, rfl, h1, h2, h3, rfl⟩ := h
  obtain ⟨g1, g2, g3⟩ := xm_arr hT (hok.1 a _ h1) (by decide) (by decide)
  refine W.last hx hb g1 g2 g3 (by simpa [x_arr] using (x_ix_in h2).1) rfl rfl d fun H1 e1 e2 e3 => ?_
  obtain ⟨k1, k2⟩ := xm_end hok hS (by decide) (by decide) h3 e1 e2 e3
  exact kk H1 _ k1 k2 rfl
theorem xm_bastore (F : x_fx p s m args c cc own D cA ad B) (hok : x_ok D cA B s σ H) (hS : va_S (fun q => B ≤ q) s.heap H locs) (d : decode cc pc = .ok (.bastore, 1)) (h : x_mem B cx .bastore st σ st' σ') (kk : ∀ H1 locs1, x_ok D cA B s σ' H1 → va_S (fun q => B ≤ q) s.heap H1 locs1 → σ'.2 = σ.2 → W p l e R s m args below meth c H1 locs1 cells slots Q (F0 m (pc + 1) L st')) : W p l e R s m args below meth c H locs cells slots Q (F0 m pc L st) := by
  obtain ⟨hx, hb, hown, hts, hT, hB⟩ := F
  obtain ⟨x, j, a, V, rfl, h1, h0, h2, h3, rfl⟩ := h
  obtain ⟨g1, g2, g3⟩ := xm_arr hT (hok.1 a _ h1) (by decide) (by decide)
  refine W.zast hx hb g1 g2 g3 (by simpa [x_arr] using (x_ix_in h2).1) rfl rfl d fun H1 e1 e2 e3 => ?_
  have hn : narrow .boolean (.int x) = .int x := by rcases h0 with rfl | rfl <;> rfl
  rw [hn] at e1
  obtain ⟨k1, k2⟩ := xm_end hok hS (by decide) (by decide) h3 e1 e2 e3
  exact kk H1 _ k1 k2 rfl
theorem xm_aastore (F : x_fx p s m args c cc own D cA ad B) (hok : x_ok D cA B s σ H) (hS : va_S (fun q => B ≤ q) s.heap H locs) (d : decode cc pc = .ok (.aastore, 1)) (h : x_mem B cx .aastore st σ st' σ') (kk : ∀ H1 locs1, x_ok D cA B s σ' H1 → va_S (fun q => B ≤ q) s.heap H1 locs1 → σ'.2 = σ.2 → W p l e R s m args below meth c H1 locs1 cells slots Q (F0 m (pc + 1) L st')) : W p l e R s m args below meth c H locs cells slots Q (F0 m pc L st) := by
  obtain ⟨hx, hb, hown, hts, hT, hB⟩ := F
  obtain ⟨x, j, a, t, V, t2, fs, rfl, h1, h2, h3, h4, h5, rfl⟩ := h
  have ht : 100 ≤ t ∧ t < 106 ∧ t2 < 100 ∧ ∃ q : vw_C, vwCl[t2]? = some q ∧ x_ty t = .object q.1 := by
    rcases h3 with ⟨rfl, rfl⟩ | ⟨rfl, rfl⟩ | ⟨rfl, rfl⟩
    · exact ⟨by decide, by decide, by decide, _, rfl, rfl⟩
    · exact ⟨by decide, by decide, by decide, _, rfl, rfl⟩
    · exact ⟨by decide, by decide, by decide, _, rfl, rfl⟩
  obtain ⟨b1, b2, b3, q, b4, b5⟩ := ht
  obtain ⟨g1, g2, g3⟩ := xm_arr hT (hok.1 a _ h1) b1 b2
  obtain ⟨r', hr', cellV, v1, v2, v3, -⟩ := xm_obj (hok.1 x _ h2) b3
  have hcls := (hT.1.1 t2 q b4).2
  have hra := (hT.2.1 t b1 b2).2
  rw [b5] at hra
  obtain ⟨kA, comp, k1, k2, k3, -⟩ := hra
  have hcomp : comp = D.1 t2 := Option.some.inj (k3.symm.trans hcls.1)
  subst hcomp
  obtain ⟨kC, hkC, -⟩ := hcls.2
  have hin := x_ix_in h4
  refine W.aast hx hb g1 (fun q h => by cases h) g3 k1 k2 rfl hkC ⟨by rw [x_lt0]; exact hin.2.1, by rw [x_clamp]; simpa [x_arr] using hin.2.2⟩ v1 (fun q h => by rw [v3] at h; cases h) (by rw [v2]; exact hkC) (by rw [v2]; exact va_assign hcls) rfl rfl d fun H1 e1 e2 e3 => ?_
  obtain ⟨n1, n2⟩ := xm_end hok hS b1 b2 h5 e1 e2 e3
  exact kk H1 _ n1 n2 rfl
end XM
