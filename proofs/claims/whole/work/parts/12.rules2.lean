/-! RULES, nearer to use -/
section XR2
variable {B : Nat} {rt : Option FieldType} {cx : xC} {cc : ByteArray} {K : xK} {pc : Nat} {ls r : List Value} {σ : xW}
theorem xr_dup {v : Value} (d : decode cc pc = .ok (.dup, 1)) : x_WP B rt cx cc K pc ls (v :: r) σ ↔ (v.category = 1 ∧ x_WP B rt cx cc K (pc + 1) ls (v :: v :: r) σ) := by
  refine xr_of d rfl ⟨?_, ?_⟩
  · rintro (⟨a1, b1, c1, e1, h1, h2⟩ | ⟨v1, h1, h2⟩)
    · simp only [x_i, x_pure, x_load, x_store, x_jump, x_mem, x_call, false_and, or_false, false_or] at h1
      obtain ⟨⟨x, z, h3, h4, rfl⟩, rfl, rfl, rfl⟩ := h1
      cases h3
      exact ⟨h4, h2⟩
    · exact h1.elim
  · exact fun h => Or.inl ⟨_, _, _, _, Or.inl ⟨⟨_, _, rfl, h.1, rfl⟩, rfl, rfl, rfl⟩, h.2⟩
theorem xr_put_i {k t j a : Nat} {x : Int32} (d : decode cc pc = .ok (.putfield k, 3)) (hf : cx.1 k = some (t, j, .int, true)) (ht : t < 100) : x_WP B rt cx cc K pc ls (.int x :: .ref a :: r) σ ↔ ∃ fs, σ.1 a = some (t, fs) ∧ j < fs.length ∧ B ≤ a ∧ x_WP B rt cx cc K (pc + 3) ls r (x_up σ.1 a (t, fs.set j (.int x)), σ.2) :=
  (xr_putfield d hf).trans (by simp [ht, x_fit])
theorem xr_put_l {k t j a : Nat} {x : Int64} (d : decode cc pc = .ok (.putfield k, 3)) (hf : cx.1 k = some (t, j, .long, true)) (ht : t < 100) : x_WP B rt cx cc K pc ls (.long x :: .ref a :: r) σ ↔ ∃ fs, σ.1 a = some (t, fs) ∧ j < fs.length ∧ B ≤ a ∧ x_WP B rt cx cc K (pc + 3) ls r (x_up σ.1 a (t, fs.set j (.long x)), σ.2) :=
  (xr_putfield d hf).trans (by simp [ht, x_fit])
theorem xr_put_z {k t j a : Nat} {x : Int32} (d : decode cc pc = .ok (.putfield k, 3)) (hf : cx.1 k = some (t, j, .boolean, true)) (ht : t < 100) : x_WP B rt cx cc K pc ls (.int x :: .ref a :: r) σ ↔ ∃ fs, σ.1 a = some (t, fs) ∧ j < fs.length ∧ B ≤ a ∧ (x = 0 ∨ x = 1) ∧ x_WP B rt cx cc K (pc + 3) ls r (x_up σ.1 a (t, fs.set j (.int x)), σ.2) :=
  (xr_putfield d hf).trans (by simp [ht, x_fit])
theorem xr_put_o {k t j a : Nat} {nm : String} {v : Value} (d : decode cc pc = .ok (.putfield k, 3)) (hf : cx.1 k = some (t, j, .object nm, true)) (ht : t < 100) : x_WP B rt cx cc K pc ls (v :: .ref a :: r) σ ↔ ∃ fs, σ.1 a = some (t, fs) ∧ j < fs.length ∧ B ≤ a ∧ x_rfv v ∧ x_WP B rt cx cc K (pc + 3) ls r (x_up σ.1 a (t, fs.set j v), σ.2) :=
  (xr_putfield d hf).trans (by simp [ht, x_fit])
theorem xr_put_a {k t j a : Nat} {et : FieldType} {v : Value} (d : decode cc pc = .ok (.putfield k, 3)) (hf : cx.1 k = some (t, j, .array et, true)) (ht : t < 100) : x_WP B rt cx cc K pc ls (v :: .ref a :: r) σ ↔ ∃ fs, σ.1 a = some (t, fs) ∧ j < fs.length ∧ B ≤ a ∧ x_rfv v ∧ x_WP B rt cx cc K (pc + 3) ls r (x_up σ.1 a (t, fs.set j v), σ.2) :=
  (xr_putfield d hf).trans (by simp [ht, x_fit])
theorem x_flip {P A C : Prop} (h : ((¬ P → A) ∧ (¬ ¬ P → C))) : (P → C) ∧ (¬ P → A) := ⟨fun q => h.2 (fun z => z q), h.1⟩
theorem x_flop {P A C : Prop} (h : (P → C) ∧ (¬ P → A)) : ((¬ P → A) ∧ (¬ ¬ P → C)) := ⟨h.2, fun q => h.1 (Classical.not_not.mp q)⟩
theorem xr_if_eq {a : Int32} {off : Int} {tgt : Nat} (d : decode cc pc = .ok (.ifCond .eq off, 3)) (ht : (pc : Int) + off = (tgt : Int)) : x_WP B rt cx cc K pc ls (.int a :: r) σ ↔ ((a = 0 → x_WP B rt cx cc K tgt ls r σ) ∧ (¬ a = 0 → x_WP B rt cx cc K (pc + 3) ls r σ)) := xr_if d ht
theorem xr_if_ne {a : Int32} {off : Int} {tgt : Nat} (d : decode cc pc = .ok (.ifCond .ne off, 3)) (ht : (pc : Int) + off = (tgt : Int)) : x_WP B rt cx cc K pc ls (.int a :: r) σ ↔ ((a = 0 → x_WP B rt cx cc K (pc + 3) ls r σ) ∧ (¬ a = 0 → x_WP B rt cx cc K tgt ls r σ)) := (xr_if d ht).trans ⟨x_flip, x_flop⟩
theorem xr_if_lt {a : Int32} {off : Int} {tgt : Nat} (d : decode cc pc = .ok (.ifCond .lt off, 3)) (ht : (pc : Int) + off = (tgt : Int)) : x_WP B rt cx cc K pc ls (.int a :: r) σ ↔ ((a.toInt < 0 → x_WP B rt cx cc K tgt ls r σ) ∧ (¬ a.toInt < 0 → x_WP B rt cx cc K (pc + 3) ls r σ)) := xr_if d ht
theorem xr_if_ge {a : Int32} {off : Int} {tgt : Nat} (d : decode cc pc = .ok (.ifCond .ge off, 3)) (ht : (pc : Int) + off = (tgt : Int)) : x_WP B rt cx cc K pc ls (.int a :: r) σ ↔ ((a.toInt < 0 → x_WP B rt cx cc K (pc + 3) ls r σ) ∧ (¬ a.toInt < 0 → x_WP B rt cx cc K tgt ls r σ)) := (xr_if d ht).trans ⟨x_flip, x_flop⟩
theorem xr_if_gt {a : Int32} {off : Int} {tgt : Nat} (d : decode cc pc = .ok (.ifCond .gt off, 3)) (ht : (pc : Int) + off = (tgt : Int)) : x_WP B rt cx cc K pc ls (.int a :: r) σ ↔ ((0 < a.toInt → x_WP B rt cx cc K tgt ls r σ) ∧ (¬ 0 < a.toInt → x_WP B rt cx cc K (pc + 3) ls r σ)) := xr_if d ht
theorem xr_if_le {a : Int32} {off : Int} {tgt : Nat} (d : decode cc pc = .ok (.ifCond .le off, 3)) (ht : (pc : Int) + off = (tgt : Int)) : x_WP B rt cx cc K pc ls (.int a :: r) σ ↔ ((0 < a.toInt → x_WP B rt cx cc K (pc + 3) ls r σ) ∧ (¬ 0 < a.toInt → x_WP B rt cx cc K tgt ls r σ)) := (xr_if d ht).trans ⟨x_flip, x_flop⟩
theorem xr_icmp_eq {a b : Int32} {off : Int} {tgt : Nat} (d : decode cc pc = .ok (.if_icmp .eq off, 3)) (ht : (pc : Int) + off = (tgt : Int)) : x_WP B rt cx cc K pc ls (.int b :: .int a :: r) σ ↔ ((a = b → x_WP B rt cx cc K tgt ls r σ) ∧ (¬ a = b → x_WP B rt cx cc K (pc + 3) ls r σ)) := xr_icmp d ht
theorem xr_icmp_ne {a b : Int32} {off : Int} {tgt : Nat} (d : decode cc pc = .ok (.if_icmp .ne off, 3)) (ht : (pc : Int) + off = (tgt : Int)) : x_WP B rt cx cc K pc ls (.int b :: .int a :: r) σ ↔ ((a = b → x_WP B rt cx cc K (pc + 3) ls r σ) ∧ (¬ a = b → x_WP B rt cx cc K tgt ls r σ)) := (xr_icmp d ht).trans ⟨x_flip, x_flop⟩
theorem xr_icmp_lt {a b : Int32} {off : Int} {tgt : Nat} (d : decode cc pc = .ok (.if_icmp .lt off, 3)) (ht : (pc : Int) + off = (tgt : Int)) : x_WP B rt cx cc K pc ls (.int b :: .int a :: r) σ ↔ ((a.toInt < b.toInt → x_WP B rt cx cc K tgt ls r σ) ∧ (¬ a.toInt < b.toInt → x_WP B rt cx cc K (pc + 3) ls r σ)) := xr_icmp d ht
theorem xr_icmp_ge {a b : Int32} {off : Int} {tgt : Nat} (d : decode cc pc = .ok (.if_icmp .ge off, 3)) (ht : (pc : Int) + off = (tgt : Int)) : x_WP B rt cx cc K pc ls (.int b :: .int a :: r) σ ↔ ((a.toInt < b.toInt → x_WP B rt cx cc K (pc + 3) ls r σ) ∧ (¬ a.toInt < b.toInt → x_WP B rt cx cc K tgt ls r σ)) := (xr_icmp d ht).trans ⟨x_flip, x_flop⟩
theorem xr_icmp_gt {a b : Int32} {off : Int} {tgt : Nat} (d : decode cc pc = .ok (.if_icmp .gt off, 3)) (ht : (pc : Int) + off = (tgt : Int)) : x_WP B rt cx cc K pc ls (.int b :: .int a :: r) σ ↔ ((b.toInt < a.toInt → x_WP B rt cx cc K tgt ls r σ) ∧ (¬ b.toInt < a.toInt → x_WP B rt cx cc K (pc + 3) ls r σ)) := xr_icmp d ht
theorem xr_icmp_le {a b : Int32} {off : Int} {tgt : Nat} (d : decode cc pc = .ok (.if_icmp .le off, 3)) (ht : (pc : Int) + off = (tgt : Int)) : x_WP B rt cx cc K pc ls (.int b :: .int a :: r) σ ↔ ((b.toInt < a.toInt → x_WP B rt cx cc K (pc + 3) ls r σ) ∧ (¬ b.toInt < a.toInt → x_WP B rt cx cc K tgt ls r σ)) := (xr_icmp d ht).trans ⟨x_flip, x_flop⟩
theorem xr_callV {k : Nat} {E : xR} (As r : List Value) (d : decode cc pc = .ok (.invokevirtual k, 3)) (hf : cx.2.2.2.2.2 k = some (0, As.length, E)) : x_WP B rt cx cc K pc ls (As.reverse ++ r) σ ↔ ((r.map fun v => v.category).sum ≤ 8 ∧ x_cl E As σ (fun v g => x_WP B rt cx cc K (pc + 3) ls (v.toList ++ r) g)) :=
  (xr_invokevirtual d hf).trans (by simp [List.drop_append, List.take_append])
theorem xr_callS {k : Nat} {E : xR} (As r : List Value) (d : decode cc pc = .ok (.invokestatic k, 3)) (hf : cx.2.2.2.2.2 k = some (1, As.length, E)) : x_WP B rt cx cc K pc ls (As.reverse ++ r) σ ↔ ((r.map fun v => v.category).sum ≤ 8 ∧ x_cl E As σ (fun v g => x_WP B rt cx cc K (pc + 3) ls (v.toList ++ r) g)) :=
  (xr_invokestatic d hf).trans (by simp [List.drop_append, List.take_append])
theorem xr_callI {k : Nat} {E : xR} (As r : List Value) (d : decode cc pc = .ok (.invokespecial k, 3)) (hf : cx.2.2.2.2.2 k = some (2, As.length, E)) : x_WP B rt cx cc K pc ls (As.reverse ++ r) σ ↔ ((r.map fun v => v.category).sum ≤ 8 ∧ x_cl E As σ (fun v g => x_WP B rt cx cc K (pc + 3) ls (v.toList ++ r) g)) :=
  (xr_invokespecial d hf).trans (by simp [List.drop_append, List.take_append])
end XR2
theorem x_gt64 (a b : Int64) : a > b ↔ b.toInt < a.toInt := Int64.lt_iff_toInt_lt
theorem xl_lt (a b : Int64) : (lg_cmp a b).toInt < 0 ↔ a.toInt < b.toInt := by
  unfold lg_cmp
  by_cases h : a > b
  · rw [if_pos h]; rw [x_gt64] at h; exact ⟨fun q => absurd q (by decide), fun q => by omega⟩
  · rw [if_neg h]
    rw [x_gt64] at h
    by_cases h2 : a = b
    · rw [if_pos h2, h2]; exact ⟨fun q => absurd q (by decide), fun q => by omega⟩
    · rw [if_neg h2]
      exact ⟨fun _ => by have : a.toInt ≠ b.toInt := fun q => h2 (Int64.toInt_inj.mp q); omega, fun _ => by decide⟩
theorem xl_gt (a b : Int64) : 0 < (lg_cmp a b).toInt ↔ b.toInt < a.toInt := by
  unfold lg_cmp
  by_cases h : a > b
  · rw [if_pos h]; rw [x_gt64] at h; exact ⟨fun _ => h, fun _ => by decide⟩
  · rw [if_neg h]
    rw [x_gt64] at h
    by_cases h2 : a = b
    · rw [if_pos h2]; exact ⟨fun q => absurd q (by decide), fun q => absurd q h⟩
    · rw [if_neg h2]; exact ⟨fun q => absurd q (by decide), fun q => absurd q h⟩
theorem xl_eq (a b : Int64) : lg_cmp a b = 0 ↔ a = b := by
  unfold lg_cmp
  by_cases h : a > b
  · rw [if_pos h]
    rw [x_gt64] at h
    exact ⟨fun q => absurd q (by decide), fun q => by rw [q] at h; omega⟩
  · rw [if_neg h]
    by_cases h2 : a = b
    · rw [if_pos h2]; exact ⟨fun _ => h2, fun _ => rfl⟩
    · rw [if_neg h2]; exact ⟨fun q => absurd q (by decide), fun q => absurd q h2⟩
/-- looking a number up in a list -/
theorem x_look {α : Type} {l : List (Nat × α)} {k : Nat} {v : α} (h : l.lookup k = some v) : (k, v) ∈ l := by
  induction l with
  | nil => simp at h
  | cons q l ih =>
    obtain ⟨a, b⟩ := q
    rw [List.lookup_cons] at h
    by_cases hk : k = a
    · subst hk
      simp at h
      subst h
      exact List.mem_cons_self
    · have : (k == a) = false := by simpa using hk
      rw [this] at h
      exact List.mem_cons_of_mem _ (ih h)
/-- the tables of a pool, checked by program -/
def x_fchk (own : String) (ini : Bool) (q : Nat × Nat × Nat × FieldType × Bool) : Bool :=
  match vwCl[q.2.1]? with
  | some r => decide (q.2.1 < 100) && decide (q.2.2.1 < r.2.2) && (decide (Cond.fieldLink own q.1 (r.2.1 q.2.2.1).1 (r.2.1 q.2.2.1).2.1 (r.2.1 q.2.2.1).2.2.1 ∈ lw_tbl)) && decide (parseFieldDescriptor (r.2.1 q.2.2.1).2.2.1 = some q.2.2.2.1) && (!q.2.2.2.2 || !(r.2.1 q.2.2.1).2.2.2 || (ini && decide ((r.2.1 q.2.2.1).1 = own)))
  | none => decide (q.2.1 = 107) && decide (q.2.2.1 = 0) && !q.2.2.2.2 && (decide (Cond.fieldLink own q.1 "PageBuilder$Kind" "goesAtTop" "Z" ∈ lw_tbl))
theorem x_fld_of {own : String} {ini : Bool} {l : List (Nat × Nat × Nat × FieldType × Bool)} {cx : xC} (h : l.all (x_fchk own ini) = true) (hc : cx.1 = fun k => l.lookup k) : xv_fld own ini cx := by
  intro k t j ty wr hk
  rw [hc] at hk
  have hm := List.all_eq_true.mp h _ (x_look hk)
  unfold x_fchk at hm
  dsimp only at hm
  split at hm
  · rename_i r hr
    simp only [Bool.and_eq_true, decide_eq_true_eq, Bool.or_eq_true, Bool.not_eq_true'] at hm
    obtain ⟨⟨⟨⟨h1, h2⟩, h3⟩, h4⟩, h5⟩ := hm
    refine Or.inl ⟨r, hr, h1, h2, xT_in h3 rfl, h4, fun hw => ?_⟩
    rcases h5 with (h5 | h5) | h5
    · rw [hw] at h5; cases h5
    · exact Or.inl h5
    · exact Or.inr h5
  · simp only [Bool.and_eq_true, decide_eq_true_eq, Bool.not_eq_true'] at hm
    obtain ⟨⟨⟨h1, h2⟩, h3⟩, h4⟩ := hm
    exact Or.inr ⟨h1, h2, h3, xT_in h4 rfl⟩
def x_cchk (own : String) (q : Nat × Value) : Bool := match q.2 with
  | .int v => decide (Cond.constant own q.1 v ∈ lw_tbl)
  | .long v => decide (Cond.constantLong own q.1 v ∈ lw_tbl)
  | _ => false
theorem x_cst_of {own : String} {l : List (Nat × Value)} {cx : xC} (h : l.all (x_cchk own) = true) (hc : cx.2.1 = fun k => l.lookup k) : xv_cst own cx := by
  constructor
  · intro k v hk
    rw [hc] at hk
    have hm := List.all_eq_true.mp h _ (x_look hk)
    exact xT_in (of_decide_eq_true hm) rfl
  · intro k v hk
    rw [hc] at hk
    have hm := List.all_eq_true.mp h _ (x_look hk)
    exact xT_in (of_decide_eq_true hm) rfl
def x_schk (own : String) (q : Nat × Nat) : Bool := decide (q.2 < 6) && ((decide (q.1 < 1000000) && decide (Cond.fieldLink own q.1 "PageBuilder$Kind" (x_nms.getD q.2 "") "LPageBuilder$Kind;" ∈ lw_tbl)) || decide (q.1 = 1000000 + q.2))
theorem x_sta_of {own : String} {ad : Nat → Nat} {l : List (Nat × Nat)} {cx : xC} (h : l.all (x_schk own) = true) (hc : cx.2.2.2.2.1 = fun k => (l.lookup k).map fun i => .ref (ad i)) : xv_sta own ad cx := by
  intro k v hk
  rw [hc] at hk
  dsimp only at hk
  cases hv : l.lookup k with
  | none => rw [hv] at hk; cases hk
  | some i =>
    rw [hv] at hk
    cases hk
    have hm := List.all_eq_true.mp h _ (x_look hv)
    unfold x_schk at hm
    simp only [Bool.and_eq_true, Bool.or_eq_true, decide_eq_true_eq] at hm
    obtain ⟨h1, ⟨h2, h3⟩ | h2⟩ := hm
    · exact ⟨i, h1, rfl, fun _ => xT_in h3 rfl, fun h4 => by omega⟩
    · exact ⟨i, h1, rfl, fun h4 => by omega, fun _ => h2⟩
theorem x_ksa {ad : Nat → Nat} {sa : List (Nat × Nat)} (h : (List.range 6).all (fun i => sa.lookup (1000000 + i) == some i) = true) (i : Nat) (hi : i < 6) : (sa.lookup (1000000 + i)).map (fun i => Value.ref (ad i)) = some (.ref (ad i)) := by
  have h2 := List.all_eq_true.mp h i (List.mem_range.mpr hi)
  rw [eq_of_beq h2]
  rfl
def x_nchk (own : String) (q : Nat × Nat × List Value) : Bool := match vwCl[q.2.1]? with
  | some r => decide (q.2.1 < 100) && decide (q.2.2.length = r.2.2) && ((List.range r.2.2).all fun j => match parseFieldDescriptor (r.2.1 j).2.2.1 with | some ty => decide (defaultValue ty = vp_V q.2.2 j) | none => false) && decide (Cond.classLink own q.1 r.1 ∈ lw_tbl) && decide (Cond.instantiable r.1 r.2.2 ∈ lw_tbl) && decide (Cond.initialized r.1 ∈ lw_tbl)
  | none => false
theorem x_new_of {own : String} {l : List (Nat × Nat × List Value)} {cx : xC} (h : l.all (x_nchk own) = true) (hc : cx.2.2.1 = fun k => l.lookup k) : xv_new own cx := by
  intro k t fs hk
  rw [hc] at hk
  have hm := List.all_eq_true.mp h _ (x_look hk)
  unfold x_nchk at hm
  dsimp only at hm
  split at hm
  · rename_i r hr
    simp only [Bool.and_eq_true, decide_eq_true_eq, List.all_eq_true, List.mem_range] at hm
    obtain ⟨⟨⟨⟨⟨h1, h2⟩, h3⟩, h4⟩, h5⟩, h6⟩ := hm
    refine ⟨r, fun j => (parseFieldDescriptor (r.2.1 j).2.2.1).getD .int, hr, h1, h2, fun j hj => ?_, fun j hj => ?_, xT_in h4 rfl, xT_in h5 rfl, xT_in h6 rfl⟩
    · have := h3 j hj
      split at this
      · rename_i ty hty
        dsimp only
        rw [hty]
        rfl
      · cases this
    · have := h3 j hj
      split at this
      · rename_i ty hty
        dsimp only
        rw [hty]
        exact of_decide_eq_true this
      · cases this
  · cases hm
def x_achk (own : String) (q : Nat × Nat) : Bool := decide (103 ≤ q.2) && decide (q.2 < 106) && match x_ty q.2 with
  | .object C => decide (Cond.classLink own q.1 C ∈ lw_tbl) && decide (C ∈ ["PageBuilder$Item", "PageBuilder$InsertClass", "PageBuilder$Page"])
  | _ => false
theorem x_anew_of {own : String} {l : List (Nat × Nat)} {cx : xC} (h : l.all (x_achk own) = true) (hc : cx.2.2.2.1 = fun k => l.lookup k) : xv_anew own cx := by
  intro k t hk
  rw [hc] at hk
  have hm := List.all_eq_true.mp h _ (x_look hk)
  unfold x_achk at hm
  dsimp only at hm
  split at hm
  · rename_i C hC
    simp only [Bool.and_eq_true, decide_eq_true_eq] at hm
    exact ⟨hm.1.1, hm.1.2, C, hC, xT_in hm.2.1 rfl, hm.2.2⟩
  · simp at hm
