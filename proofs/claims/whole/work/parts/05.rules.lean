/-! THE RULES: at each instruction, what is to be shown is what is to be shown at the next -/
section XRU
variable {B : Nat} {rt : Option FieldType} {cx : xC} {cc : ByteArray} {K : xK} {pc n : Nat} {ls r : List Value} {σ : xW}
theorem xr_of {i : Instr} {st : List Value} {P : Prop} (d : decode cc pc = .ok (i, n)) (hl : x_len i n) (h : ((∃ pc' ls' st' σ', x_i B cx i n pc ls st σ pc' ls' st' σ' ∧ x_WP B rt cx cc K pc' ls' st' σ') ∨ ∃ v, x_fi rt i st v ∧ K v σ) ↔ P) : x_WP B rt cx cc K pc ls st σ ↔ P := by
  rw [x_WP_iff, ← h]
  unfold x_step x_n x_f
  rw [d]
  constructor
  · rintro (⟨a, b, c, e, ⟨i', n', hd, -, h1⟩, h2⟩ | ⟨v, ⟨i', n', hd, -, h1⟩, h2⟩)
    · cases hd; exact Or.inl ⟨a, b, c, e, h1, h2⟩
    · cases hd; exact Or.inr ⟨v, h1, h2⟩
  · rintro (⟨a, b, c, e, h1, h2⟩ | ⟨v, h1, h2⟩)
    · exact Or.inl ⟨a, b, c, e, ⟨i, n, rfl, hl, h1⟩, h2⟩
    · exact Or.inr ⟨v, ⟨i, n, rfl, hl, h1⟩, h2⟩
theorem xr_iconst {k : Int} {v : Int32} (d : decode cc pc = .ok (.iconst k, 1)) (hv : Int32.ofInt k = v) : x_WP B rt cx cc K pc ls r σ ↔ x_WP B rt cx cc K (pc + 1) ls (.int v :: r) σ := by
  subst hv
  refine xr_of d rfl ⟨?_, ?_⟩
  · rintro (⟨a1, b1, c1, e1, h1, h2⟩ | ⟨v1, h1, h2⟩)
    · simp only [x_i, x_pure, x_load, x_store, x_jump, x_mem, x_call, false_and, or_false, false_or] at h1
      obtain ⟨rfl, rfl, rfl, rfl⟩ := h1
      exact h2
    · exact h1.elim
  · exact fun h => Or.inl ⟨_, _, _, _, Or.inl ⟨rfl, rfl, rfl, rfl⟩, h⟩
theorem xr_bipush {k : Int} {v : Int32} (d : decode cc pc = .ok (.bipush k, 2)) (hv : (Int8.ofInt k).toInt32 = v) : x_WP B rt cx cc K pc ls r σ ↔ x_WP B rt cx cc K (pc + 2) ls (.int v :: r) σ := by
  subst hv
  refine xr_of d rfl ⟨?_, ?_⟩
  · rintro (⟨a1, b1, c1, e1, h1, h2⟩ | ⟨v1, h1, h2⟩)
    · simp only [x_i, x_pure, x_load, x_store, x_jump, x_mem, x_call, false_and, or_false, false_or] at h1
      obtain ⟨rfl, rfl, rfl, rfl⟩ := h1
      exact h2
    · exact h1.elim
  · exact fun h => Or.inl ⟨_, _, _, _, Or.inl ⟨rfl, rfl, rfl, rfl⟩, h⟩
theorem xr_sipush {k : Int} {v : Int32} (d : decode cc pc = .ok (.sipush k, 3)) (hv : (Int16.ofInt k).toInt32 = v) : x_WP B rt cx cc K pc ls r σ ↔ x_WP B rt cx cc K (pc + 3) ls (.int v :: r) σ := by
  subst hv
  refine xr_of d rfl ⟨?_, ?_⟩
  · rintro (⟨a1, b1, c1, e1, h1, h2⟩ | ⟨v1, h1, h2⟩)
    · simp only [x_i, x_pure, x_load, x_store, x_jump, x_mem, x_call, false_and, or_false, false_or] at h1
      obtain ⟨rfl, rfl, rfl, rfl⟩ := h1
      exact h2
    · exact h1.elim
  · exact fun h => Or.inl ⟨_, _, _, _, Or.inl ⟨rfl, rfl, rfl, rfl⟩, h⟩
theorem xr_lconst {k : Fin 2} {v : Int64} (d : decode cc pc = .ok (.lconst k, 1)) (hv : Int64.ofNat k.val = v) : x_WP B rt cx cc K pc ls r σ ↔ x_WP B rt cx cc K (pc + 1) ls (.long v :: r) σ := by
  subst hv
  refine xr_of d rfl ⟨?_, ?_⟩
  · rintro (⟨a1, b1, c1, e1, h1, h2⟩ | ⟨v1, h1, h2⟩)
    · simp only [x_i, x_pure, x_load, x_store, x_jump, x_mem, x_call, false_and, or_false, false_or] at h1
      obtain ⟨rfl, rfl, rfl, rfl⟩ := h1
      exact h2
    · exact h1.elim
  · exact fun h => Or.inl ⟨_, _, _, _, Or.inl ⟨rfl, rfl, rfl, rfl⟩, h⟩
theorem xr_null  (d : decode cc pc = .ok (.aconst_null, 1))  : x_WP B rt cx cc K pc ls r σ ↔ x_WP B rt cx cc K (pc + 1) ls (.null :: r) σ := by
  refine xr_of d rfl ⟨?_, ?_⟩
  · rintro (⟨a1, b1, c1, e1, h1, h2⟩ | ⟨v1, h1, h2⟩)
    · simp only [x_i, x_pure, x_load, x_store, x_jump, x_mem, x_call, false_and, or_false, false_or] at h1
      obtain ⟨rfl, rfl, rfl, rfl⟩ := h1
      exact h2
    · exact h1.elim
  · exact fun h => Or.inl ⟨_, _, _, _, Or.inl ⟨rfl, rfl, rfl, rfl⟩, h⟩
theorem xr_ldc {k : Nat} {v : Int32} (d : decode cc pc = .ok (.ldc k, 2)) (hv : cx.2.1 k = some (.int v)) : x_WP B rt cx cc K pc ls r σ ↔ x_WP B rt cx cc K (pc + 2) ls (.int v :: r) σ := by
  refine xr_of d rfl ⟨?_, ?_⟩
  · rintro (⟨a1, b1, c1, e1, h1, h2⟩ | ⟨v1, h1, h2⟩)
    · simp only [x_i, x_pure, x_load, x_store, x_jump, x_mem, x_call, false_and, or_false, false_or] at h1
      obtain ⟨⟨x, h3, rfl⟩, rfl, rfl, rfl⟩ := h1
      cases hv.symm.trans h3
      exact h2
    · exact h1.elim
  · exact fun h => Or.inl ⟨_, _, _, _, Or.inl ⟨⟨_, hv, rfl⟩, rfl, rfl, rfl⟩, h⟩
theorem xr_ldc2 {k : Nat} {v : Int64} (d : decode cc pc = .ok (.ldc2_w k, 3)) (hv : cx.2.1 k = some (.long v)) : x_WP B rt cx cc K pc ls r σ ↔ x_WP B rt cx cc K (pc + 3) ls (.long v :: r) σ := by
  refine xr_of d rfl ⟨?_, ?_⟩
  · rintro (⟨a1, b1, c1, e1, h1, h2⟩ | ⟨v1, h1, h2⟩)
    · simp only [x_i, x_pure, x_load, x_store, x_jump, x_mem, x_call, false_and, or_false, false_or] at h1
      obtain ⟨⟨x, h3, rfl⟩, rfl, rfl, rfl⟩ := h1
      cases hv.symm.trans h3
      exact h2
    · exact h1.elim
  · exact fun h => Or.inl ⟨_, _, _, _, Or.inl ⟨⟨_, hv, rfl⟩, rfl, rfl, rfl⟩, h⟩
theorem xr_gets {k : Nat} {v : Value} (d : decode cc pc = .ok (.getstatic k, 3)) (hv : cx.2.2.2.2.1 k = some v) (hk : k < 1000000 := by decide) : x_WP B rt cx cc K pc ls r σ ↔ x_WP B rt cx cc K (pc + 3) ls (v :: r) σ := by
  refine xr_of d rfl ⟨?_, ?_⟩
  · rintro (⟨a1, b1, c1, e1, h1, h2⟩ | ⟨v1, h1, h2⟩)
    · simp only [x_i, x_pure, x_load, x_store, x_jump, x_mem, x_call, false_and, or_false, false_or] at h1
      obtain ⟨⟨x, h3, -, rfl⟩, rfl, rfl, rfl⟩ := h1
      cases hv.symm.trans h3
      exact h2
    · exact h1.elim
  · exact fun h => Or.inl ⟨_, _, _, _, Or.inl ⟨⟨_, hv, hk, rfl⟩, rfl, rfl, rfl⟩, h⟩
theorem xr_iadd {a b : Int32} (d : decode cc pc = .ok (.iadd, 1))  : x_WP B rt cx cc K pc ls (.int b :: .int a :: r) σ ↔ x_WP B rt cx cc K (pc + 1) ls (.int (a + b) :: r) σ := by
  refine xr_of d rfl ⟨?_, ?_⟩
  · rintro (⟨a1, b1, c1, e1, h1, h2⟩ | ⟨v1, h1, h2⟩)
    · simp only [x_i, x_pure, x_load, x_store, x_jump, x_mem, x_call, false_and, or_false, false_or] at h1
      obtain ⟨⟨x, y, z, h3, rfl⟩, rfl, rfl, rfl⟩ := h1
      cases h3
      exact h2
    · exact h1.elim
  · exact fun h => Or.inl ⟨_, _, _, _, Or.inl ⟨⟨_, _, _, rfl, rfl⟩, rfl, rfl, rfl⟩, h⟩
theorem xr_isub {a b : Int32} (d : decode cc pc = .ok (.isub, 1))  : x_WP B rt cx cc K pc ls (.int b :: .int a :: r) σ ↔ x_WP B rt cx cc K (pc + 1) ls (.int (a - b) :: r) σ := by
  refine xr_of d rfl ⟨?_, ?_⟩
  · rintro (⟨a1, b1, c1, e1, h1, h2⟩ | ⟨v1, h1, h2⟩)
    · simp only [x_i, x_pure, x_load, x_store, x_jump, x_mem, x_call, false_and, or_false, false_or] at h1
      obtain ⟨⟨x, y, z, h3, rfl⟩, rfl, rfl, rfl⟩ := h1
      cases h3
      exact h2
    · exact h1.elim
  · exact fun h => Or.inl ⟨_, _, _, _, Or.inl ⟨⟨_, _, _, rfl, rfl⟩, rfl, rfl, rfl⟩, h⟩
theorem xr_imul {a b : Int32} (d : decode cc pc = .ok (.imul, 1))  : x_WP B rt cx cc K pc ls (.int b :: .int a :: r) σ ↔ x_WP B rt cx cc K (pc + 1) ls (.int (a * b) :: r) σ := by
  refine xr_of d rfl ⟨?_, ?_⟩
  · rintro (⟨a1, b1, c1, e1, h1, h2⟩ | ⟨v1, h1, h2⟩)
    · simp only [x_i, x_pure, x_load, x_store, x_jump, x_mem, x_call, false_and, or_false, false_or] at h1
      obtain ⟨⟨x, y, z, h3, rfl⟩, rfl, rfl, rfl⟩ := h1
      cases h3
      exact h2
    · exact h1.elim
  · exact fun h => Or.inl ⟨_, _, _, _, Or.inl ⟨⟨_, _, _, rfl, rfl⟩, rfl, rfl, rfl⟩, h⟩
theorem xr_iand {a b : Int32} (d : decode cc pc = .ok (.iand, 1))  : x_WP B rt cx cc K pc ls (.int b :: .int a :: r) σ ↔ x_WP B rt cx cc K (pc + 1) ls (.int (a &&& b) :: r) σ := by
  refine xr_of d rfl ⟨?_, ?_⟩
  · rintro (⟨a1, b1, c1, e1, h1, h2⟩ | ⟨v1, h1, h2⟩)
    · simp only [x_i, x_pure, x_load, x_store, x_jump, x_mem, x_call, false_and, or_false, false_or] at h1
      obtain ⟨⟨x, y, z, h3, rfl⟩, rfl, rfl, rfl⟩ := h1
      cases h3
      exact h2
    · exact h1.elim
  · exact fun h => Or.inl ⟨_, _, _, _, Or.inl ⟨⟨_, _, _, rfl, rfl⟩, rfl, rfl, rfl⟩, h⟩
theorem xr_ladd {a b : Int64} (d : decode cc pc = .ok (.ladd, 1))  : x_WP B rt cx cc K pc ls (.long b :: .long a :: r) σ ↔ x_WP B rt cx cc K (pc + 1) ls (.long (a + b) :: r) σ := by
  refine xr_of d rfl ⟨?_, ?_⟩
  · rintro (⟨a1, b1, c1, e1, h1, h2⟩ | ⟨v1, h1, h2⟩)
    · simp only [x_i, x_pure, x_load, x_store, x_jump, x_mem, x_call, false_and, or_false, false_or] at h1
      obtain ⟨⟨x, y, z, h3, rfl⟩, rfl, rfl, rfl⟩ := h1
      cases h3
      exact h2
    · exact h1.elim
  · exact fun h => Or.inl ⟨_, _, _, _, Or.inl ⟨⟨_, _, _, rfl, rfl⟩, rfl, rfl, rfl⟩, h⟩
theorem xr_lsub {a b : Int64} (d : decode cc pc = .ok (.lsub, 1))  : x_WP B rt cx cc K pc ls (.long b :: .long a :: r) σ ↔ x_WP B rt cx cc K (pc + 1) ls (.long (a - b) :: r) σ := by
  refine xr_of d rfl ⟨?_, ?_⟩
  · rintro (⟨a1, b1, c1, e1, h1, h2⟩ | ⟨v1, h1, h2⟩)
    · simp only [x_i, x_pure, x_load, x_store, x_jump, x_mem, x_call, false_and, or_false, false_or] at h1
      obtain ⟨⟨x, y, z, h3, rfl⟩, rfl, rfl, rfl⟩ := h1
      cases h3
      exact h2
    · exact h1.elim
  · exact fun h => Or.inl ⟨_, _, _, _, Or.inl ⟨⟨_, _, _, rfl, rfl⟩, rfl, rfl, rfl⟩, h⟩
theorem xr_lmul {a b : Int64} (d : decode cc pc = .ok (.lmul, 1))  : x_WP B rt cx cc K pc ls (.long b :: .long a :: r) σ ↔ x_WP B rt cx cc K (pc + 1) ls (.long (a * b) :: r) σ := by
  refine xr_of d rfl ⟨?_, ?_⟩
  · rintro (⟨a1, b1, c1, e1, h1, h2⟩ | ⟨v1, h1, h2⟩)
    · simp only [x_i, x_pure, x_load, x_store, x_jump, x_mem, x_call, false_and, or_false, false_or] at h1
      obtain ⟨⟨x, y, z, h3, rfl⟩, rfl, rfl, rfl⟩ := h1
      cases h3
      exact h2
    · exact h1.elim
  · exact fun h => Or.inl ⟨_, _, _, _, Or.inl ⟨⟨_, _, _, rfl, rfl⟩, rfl, rfl, rfl⟩, h⟩
theorem xr_lcmp {a b : Int64} (d : decode cc pc = .ok (.lcmp, 1))  : x_WP B rt cx cc K pc ls (.long b :: .long a :: r) σ ↔ x_WP B rt cx cc K (pc + 1) ls (.int (lg_cmp a b) :: r) σ := by
  refine xr_of d rfl ⟨?_, ?_⟩
  · rintro (⟨a1, b1, c1, e1, h1, h2⟩ | ⟨v1, h1, h2⟩)
    · simp only [x_i, x_pure, x_load, x_store, x_jump, x_mem, x_call, false_and, or_false, false_or] at h1
      obtain ⟨⟨x, y, z, h3, rfl⟩, rfl, rfl, rfl⟩ := h1
      cases h3
      exact h2
    · exact h1.elim
  · exact fun h => Or.inl ⟨_, _, _, _, Or.inl ⟨⟨_, _, _, rfl, rfl⟩, rfl, rfl, rfl⟩, h⟩
theorem xr_irem {a b : Int32} (d : decode cc pc = .ok (.irem, 1))  : x_WP B rt cx cc K pc ls (.int b :: .int a :: r) σ ↔ (¬ b = 0 ∧ x_WP B rt cx cc K (pc + 1) ls (.int (a - a / b * b) :: r) σ) := by
  refine xr_of d rfl ⟨?_, ?_⟩
  · rintro (⟨a1, b1, c1, e1, h1, h2⟩ | ⟨v1, h1, h2⟩)
    · simp only [x_i, x_pure, x_load, x_store, x_jump, x_mem, x_call, false_and, or_false, false_or] at h1
      obtain ⟨⟨x, y, z, h3, h4, rfl⟩, rfl, rfl, rfl⟩ := h1
      cases h3
      exact ⟨h4, h2⟩
    · exact h1.elim
  · exact fun h => Or.inl ⟨_, _, _, _, Or.inl ⟨⟨_, _, _, rfl, h.1, rfl⟩, rfl, rfl, rfl⟩, h.2⟩
theorem xr_ldiv {a b : Int64} (d : decode cc pc = .ok (.ldiv, 1))  : x_WP B rt cx cc K pc ls (.long b :: .long a :: r) σ ↔ (¬ b = 0 ∧ x_WP B rt cx cc K (pc + 1) ls (.long (a / b) :: r) σ) := by
  refine xr_of d rfl ⟨?_, ?_⟩
  · rintro (⟨a1, b1, c1, e1, h1, h2⟩ | ⟨v1, h1, h2⟩)
    · simp only [x_i, x_pure, x_load, x_store, x_jump, x_mem, x_call, false_and, or_false, false_or] at h1
      obtain ⟨⟨x, y, z, h3, h4, rfl⟩, rfl, rfl, rfl⟩ := h1
      cases h3
      exact ⟨h4, h2⟩
    · exact h1.elim
  · exact fun h => Or.inl ⟨_, _, _, _, Or.inl ⟨⟨_, _, _, rfl, h.1, rfl⟩, rfl, rfl, rfl⟩, h.2⟩
theorem xr_lneg {a : Int64} (d : decode cc pc = .ok (.lneg, 1))  : x_WP B rt cx cc K pc ls (.long a :: r) σ ↔ x_WP B rt cx cc K (pc + 1) ls (.long (-a) :: r) σ := by
  refine xr_of d rfl ⟨?_, ?_⟩
  · rintro (⟨a1, b1, c1, e1, h1, h2⟩ | ⟨v1, h1, h2⟩)
    · simp only [x_i, x_pure, x_load, x_store, x_jump, x_mem, x_call, false_and, or_false, false_or] at h1
      obtain ⟨⟨x, z, h3, rfl⟩, rfl, rfl, rfl⟩ := h1
      cases h3
      exact h2
    · exact h1.elim
  · exact fun h => Or.inl ⟨_, _, _, _, Or.inl ⟨⟨_, _, rfl, rfl⟩, rfl, rfl, rfl⟩, h⟩
theorem xr_i2l {a : Int32} (d : decode cc pc = .ok (.i2l, 1))  : x_WP B rt cx cc K pc ls (.int a :: r) σ ↔ x_WP B rt cx cc K (pc + 1) ls (.long a.toInt64 :: r) σ := by
  refine xr_of d rfl ⟨?_, ?_⟩
  · rintro (⟨a1, b1, c1, e1, h1, h2⟩ | ⟨v1, h1, h2⟩)
    · simp only [x_i, x_pure, x_load, x_store, x_jump, x_mem, x_call, false_and, or_false, false_or] at h1
      obtain ⟨⟨x, z, h3, rfl⟩, rfl, rfl, rfl⟩ := h1
      cases h3
      exact h2
    · exact h1.elim
  · exact fun h => Or.inl ⟨_, _, _, _, Or.inl ⟨⟨_, _, rfl, rfl⟩, rfl, rfl, rfl⟩, h⟩
theorem xr_l2i {a : Int64} (d : decode cc pc = .ok (.l2i, 1))  : x_WP B rt cx cc K pc ls (.long a :: r) σ ↔ x_WP B rt cx cc K (pc + 1) ls (.int a.toInt32 :: r) σ := by
  refine xr_of d rfl ⟨?_, ?_⟩
  · rintro (⟨a1, b1, c1, e1, h1, h2⟩ | ⟨v1, h1, h2⟩)
    · simp only [x_i, x_pure, x_load, x_store, x_jump, x_mem, x_call, false_and, or_false, false_or] at h1
      obtain ⟨⟨x, z, h3, rfl⟩, rfl, rfl, rfl⟩ := h1
      cases h3
      exact h2
    · exact h1.elim
  · exact fun h => Or.inl ⟨_, _, _, _, Or.inl ⟨⟨_, _, rfl, rfl⟩, rfl, rfl, rfl⟩, h⟩
theorem xr_dup_i {a : Int32} (d : decode cc pc = .ok (.dup, 1))  : x_WP B rt cx cc K pc ls (.int a :: r) σ ↔ x_WP B rt cx cc K (pc + 1) ls (.int a :: .int a :: r) σ := by
  refine xr_of d rfl ⟨?_, ?_⟩
  · rintro (⟨a1, b1, c1, e1, h1, h2⟩ | ⟨v1, h1, h2⟩)
    · simp only [x_i, x_pure, x_load, x_store, x_jump, x_mem, x_call, false_and, or_false, false_or] at h1
      obtain ⟨⟨x, z, h3, -, rfl⟩, rfl, rfl, rfl⟩ := h1
      cases h3
      exact h2
    · exact h1.elim
  · exact fun h => Or.inl ⟨_, _, _, _, Or.inl ⟨⟨_, _, rfl, rfl, rfl⟩, rfl, rfl, rfl⟩, h⟩
theorem xr_dup_a {a : Nat} (d : decode cc pc = .ok (.dup, 1))  : x_WP B rt cx cc K pc ls (.ref a :: r) σ ↔ x_WP B rt cx cc K (pc + 1) ls (.ref a :: .ref a :: r) σ := by
  refine xr_of d rfl ⟨?_, ?_⟩
  · rintro (⟨a1, b1, c1, e1, h1, h2⟩ | ⟨v1, h1, h2⟩)
    · simp only [x_i, x_pure, x_load, x_store, x_jump, x_mem, x_call, false_and, or_false, false_or] at h1
      obtain ⟨⟨x, z, h3, -, rfl⟩, rfl, rfl, rfl⟩ := h1
      cases h3
      exact h2
    · exact h1.elim
  · exact fun h => Or.inl ⟨_, _, _, _, Or.inl ⟨⟨_, _, rfl, rfl, rfl⟩, rfl, rfl, rfl⟩, h⟩
theorem xr_pop {v : Value} (d : decode cc pc = .ok (.pop, 1))  : x_WP B rt cx cc K pc ls (v :: r) σ ↔ (v.category = 1 ∧ x_WP B rt cx cc K (pc + 1) ls r σ) := by
  refine xr_of d rfl ⟨?_, ?_⟩
  · rintro (⟨a1, b1, c1, e1, h1, h2⟩ | ⟨v1, h1, h2⟩)
    · simp only [x_i, x_pure, x_load, x_store, x_jump, x_mem, x_call, false_and, or_false, false_or] at h1
      obtain ⟨⟨x, z, h3, h4, rfl⟩, rfl, rfl, rfl⟩ := h1
      cases h3
      exact ⟨h4, h2⟩
    · exact h1.elim
  · exact fun h => Or.inl ⟨_, _, _, _, Or.inl ⟨⟨_, _, rfl, h.1, rfl⟩, rfl, rfl, rfl⟩, h.2⟩
theorem xr_dup2_ia {a : Int32} {b : Nat} (d : decode cc pc = .ok (.dup2, 1))  : x_WP B rt cx cc K pc ls (.int a :: .ref b :: r) σ ↔ x_WP B rt cx cc K (pc + 1) ls (.int a :: .ref b :: .int a :: .ref b :: r) σ := by
  refine xr_of d rfl ⟨?_, ?_⟩
  · rintro (⟨a1, b1, c1, e1, h1, h2⟩ | ⟨v1, h1, h2⟩)
    · simp only [x_i, x_pure, x_load, x_store, x_jump, x_mem, x_call, false_and, or_false, false_or] at h1
      obtain ⟨⟨x, z, h3, h4, rfl⟩ | ⟨x, y, z, h3, -, -, rfl⟩, rfl, rfl, rfl⟩ := h1
      · cases h3; cases h4
      · cases h3; exact h2
    · exact h1.elim
  · exact fun h => Or.inl ⟨_, _, _, _, Or.inl ⟨Or.inr ⟨_, _, _, rfl, rfl, rfl, rfl⟩, rfl, rfl, rfl⟩, h⟩
theorem xr_iload {k : Nat} (d : decode cc pc = .ok (.iload k, 2))  : x_WP B rt cx cc K pc ls r σ ↔ ∃ v, ls[k]? = some (.int v) ∧ x_WP B rt cx cc K (pc + 2) ls (.int v :: r) σ := by
  refine xr_of d rfl ⟨?_, ?_⟩
  · rintro (⟨a1, b1, c1, e1, h1, h2⟩ | ⟨v1, h1, h2⟩)
    · simp only [x_i, x_pure, x_load, x_store, x_jump, x_mem, x_call, false_and, or_false, false_or] at h1
      obtain ⟨⟨v, h3, rfl⟩, rfl, rfl, rfl⟩ := h1
      exact ⟨v, h3, h2⟩
    · exact h1.elim
  · exact fun ⟨v, h3, h⟩ => Or.inl ⟨_, _, _, _, Or.inr (Or.inl ⟨⟨v, h3, rfl⟩, rfl, rfl, rfl⟩), h⟩
theorem xr_iload_n {k : Fin 4} (d : decode cc pc = .ok (.iload_n k, 1))  : x_WP B rt cx cc K pc ls r σ ↔ ∃ v, ls[k.val]? = some (.int v) ∧ x_WP B rt cx cc K (pc + 1) ls (.int v :: r) σ := by
  refine xr_of d rfl ⟨?_, ?_⟩
  · rintro (⟨a1, b1, c1, e1, h1, h2⟩ | ⟨v1, h1, h2⟩)
    · simp only [x_i, x_pure, x_load, x_store, x_jump, x_mem, x_call, false_and, or_false, false_or] at h1
      obtain ⟨⟨v, h3, rfl⟩, rfl, rfl, rfl⟩ := h1
      exact ⟨v, h3, h2⟩
    · exact h1.elim
  · exact fun ⟨v, h3, h⟩ => Or.inl ⟨_, _, _, _, Or.inr (Or.inl ⟨⟨v, h3, rfl⟩, rfl, rfl, rfl⟩), h⟩
theorem xr_lload {k : Nat} (d : decode cc pc = .ok (.lload k, 2))  : x_WP B rt cx cc K pc ls r σ ↔ ∃ v, ls[k]? = some (.long v) ∧ x_WP B rt cx cc K (pc + 2) ls (.long v :: r) σ := by
  refine xr_of d rfl ⟨?_, ?_⟩
  · rintro (⟨a1, b1, c1, e1, h1, h2⟩ | ⟨v1, h1, h2⟩)
    · simp only [x_i, x_pure, x_load, x_store, x_jump, x_mem, x_call, false_and, or_false, false_or] at h1
      obtain ⟨⟨v, h3, rfl⟩, rfl, rfl, rfl⟩ := h1
      exact ⟨v, h3, h2⟩
    · exact h1.elim
  · exact fun ⟨v, h3, h⟩ => Or.inl ⟨_, _, _, _, Or.inr (Or.inl ⟨⟨v, h3, rfl⟩, rfl, rfl, rfl⟩), h⟩
theorem xr_lload_n {k : Fin 4} (d : decode cc pc = .ok (.lload_n k, 1))  : x_WP B rt cx cc K pc ls r σ ↔ ∃ v, ls[k.val]? = some (.long v) ∧ x_WP B rt cx cc K (pc + 1) ls (.long v :: r) σ := by
  refine xr_of d rfl ⟨?_, ?_⟩
  · rintro (⟨a1, b1, c1, e1, h1, h2⟩ | ⟨v1, h1, h2⟩)
    · simp only [x_i, x_pure, x_load, x_store, x_jump, x_mem, x_call, false_and, or_false, false_or] at h1
      obtain ⟨⟨v, h3, rfl⟩, rfl, rfl, rfl⟩ := h1
      exact ⟨v, h3, h2⟩
    · exact h1.elim
  · exact fun ⟨v, h3, h⟩ => Or.inl ⟨_, _, _, _, Or.inr (Or.inl ⟨⟨v, h3, rfl⟩, rfl, rfl, rfl⟩), h⟩
theorem xr_aload {k : Nat} (d : decode cc pc = .ok (.aload k, 2))  : x_WP B rt cx cc K pc ls r σ ↔ ∃ v, ls[k]? = some v ∧ x_rfv v ∧ x_WP B rt cx cc K (pc + 2) ls (v :: r) σ := by
  refine xr_of d rfl ⟨?_, ?_⟩
  · rintro (⟨a1, b1, c1, e1, h1, h2⟩ | ⟨v1, h1, h2⟩)
    · simp only [x_i, x_pure, x_load, x_store, x_jump, x_mem, x_call, false_and, or_false, false_or] at h1
      obtain ⟨⟨v, h3, h4, rfl⟩, rfl, rfl, rfl⟩ := h1
      exact ⟨v, h3, h4, h2⟩
    · exact h1.elim
  · exact fun ⟨v, h3, h4, h⟩ => Or.inl ⟨_, _, _, _, Or.inr (Or.inl ⟨⟨v, h3, h4, rfl⟩, rfl, rfl, rfl⟩), h⟩
theorem xr_istore {k : Nat} {v : Int32} (d : decode cc pc = .ok (.istore k, 2))  : x_WP B rt cx cc K pc ls (.int v :: r) σ ↔ (k < ls.length ∧ x_nl ls k ∧ x_WP B rt cx cc K (pc + 2) (ls.set k (.int v)) r σ) := by
  refine xr_of d rfl ⟨?_, ?_⟩
  · rintro (⟨a1, b1, c1, e1, h1, h2⟩ | ⟨v1, h1, h2⟩)
    · simp only [x_i, x_pure, x_load, x_store, x_jump, x_mem, x_call, false_and, or_false, false_or] at h1
      obtain ⟨⟨v, h3, h4, h5, rfl⟩, rfl, rfl⟩ := h1
      cases h3
      exact ⟨h4, h5, h2⟩
    · exact h1.elim
  · exact fun ⟨h4, h5, h⟩ => Or.inl ⟨_, _, _, _, Or.inr (Or.inr (Or.inl ⟨⟨_, rfl, h4, h5, rfl⟩, rfl, rfl⟩)), h⟩
theorem xr_astore {k : Nat} {v : Value} (d : decode cc pc = .ok (.astore k, 2))  : x_WP B rt cx cc K pc ls (v :: r) σ ↔ (x_rfv v ∧ k < ls.length ∧ x_nl ls k ∧ x_WP B rt cx cc K (pc + 2) (ls.set k v) r σ) := by
  refine xr_of d rfl ⟨?_, ?_⟩
  · rintro (⟨a1, b1, c1, e1, h1, h2⟩ | ⟨v1, h1, h2⟩)
    · simp only [x_i, x_pure, x_load, x_store, x_jump, x_mem, x_call, false_and, or_false, false_or] at h1
      obtain ⟨⟨v, h3, h6, h4, h5, rfl⟩, rfl, rfl⟩ := h1
      cases h3
      exact ⟨h6, h4, h5, h2⟩
    · exact h1.elim
  · exact fun ⟨h6, h4, h5, h⟩ => Or.inl ⟨_, _, _, _, Or.inr (Or.inr (Or.inl ⟨⟨_, rfl, h6, h4, h5, rfl⟩, rfl, rfl⟩)), h⟩
theorem xr_lstore {k : Nat} {v : Int64} (d : decode cc pc = .ok (.lstore k, 2))  : x_WP B rt cx cc K pc ls (.long v :: r) σ ↔ (k + 1 < ls.length ∧ x_nl ls k ∧ x_WP B rt cx cc K (pc + 2) ((ls.set k (.long v)).set (k + 1) (.retAddr 0)) r σ) := by
  refine xr_of d rfl ⟨?_, ?_⟩
  · rintro (⟨a1, b1, c1, e1, h1, h2⟩ | ⟨v1, h1, h2⟩)
    · simp only [x_i, x_pure, x_load, x_store, x_jump, x_mem, x_call, false_and, or_false, false_or] at h1
      obtain ⟨⟨v, h3, h4, h5, rfl⟩, rfl, rfl⟩ := h1
      cases h3
      exact ⟨h4, h5, h2⟩
    · exact h1.elim
  · exact fun ⟨h4, h5, h⟩ => Or.inl ⟨_, _, _, _, Or.inr (Or.inr (Or.inl ⟨⟨_, rfl, h4, h5, rfl⟩, rfl, rfl⟩)), h⟩
theorem xr_aload_n {k : Fin 4} (d : decode cc pc = .ok (.aload_n k, 1))  : x_WP B rt cx cc K pc ls r σ ↔ ∃ v, ls[k.val]? = some v ∧ x_rfv v ∧ x_WP B rt cx cc K (pc + 1) ls (v :: r) σ := by
  refine xr_of d rfl ⟨?_, ?_⟩
  · rintro (⟨a1, b1, c1, e1, h1, h2⟩ | ⟨v1, h1, h2⟩)
    · simp only [x_i, x_pure, x_load, x_store, x_jump, x_mem, x_call, false_and, or_false, false_or] at h1
      obtain ⟨⟨v, h3, h4, rfl⟩, rfl, rfl, rfl⟩ := h1
      exact ⟨v, h3, h4, h2⟩
    · exact h1.elim
  · exact fun ⟨v, h3, h4, h⟩ => Or.inl ⟨_, _, _, _, Or.inr (Or.inl ⟨⟨v, h3, h4, rfl⟩, rfl, rfl, rfl⟩), h⟩
theorem xr_istore_n {k : Fin 4} {v : Int32} (d : decode cc pc = .ok (.istore_n k, 1))  : x_WP B rt cx cc K pc ls (.int v :: r) σ ↔ (k.val < ls.length ∧ x_nl ls k.val ∧ x_WP B rt cx cc K (pc + 1) (ls.set k.val (.int v)) r σ) := by
  refine xr_of d rfl ⟨?_, ?_⟩
  · rintro (⟨a1, b1, c1, e1, h1, h2⟩ | ⟨v1, h1, h2⟩)
    · simp only [x_i, x_pure, x_load, x_store, x_jump, x_mem, x_call, false_and, or_false, false_or] at h1
      obtain ⟨⟨v, h3, h4, h5, rfl⟩, rfl, rfl⟩ := h1
      cases h3
      exact ⟨h4, h5, h2⟩
    · exact h1.elim
  · exact fun ⟨h4, h5, h⟩ => Or.inl ⟨_, _, _, _, Or.inr (Or.inr (Or.inl ⟨⟨_, rfl, h4, h5, rfl⟩, rfl, rfl⟩)), h⟩
theorem xr_astore_n {k : Fin 4} {v : Value} (d : decode cc pc = .ok (.astore_n k, 1))  : x_WP B rt cx cc K pc ls (v :: r) σ ↔ (x_rfv v ∧ k.val < ls.length ∧ x_nl ls k.val ∧ x_WP B rt cx cc K (pc + 1) (ls.set k.val v) r σ) := by
  refine xr_of d rfl ⟨?_, ?_⟩
  · rintro (⟨a1, b1, c1, e1, h1, h2⟩ | ⟨v1, h1, h2⟩)
    · simp only [x_i, x_pure, x_load, x_store, x_jump, x_mem, x_call, false_and, or_false, false_or] at h1
      obtain ⟨⟨v, h3, h6, h4, h5, rfl⟩, rfl, rfl⟩ := h1
      cases h3
      exact ⟨h6, h4, h5, h2⟩
    · exact h1.elim
  · exact fun ⟨h6, h4, h5, h⟩ => Or.inl ⟨_, _, _, _, Or.inr (Or.inr (Or.inl ⟨⟨_, rfl, h6, h4, h5, rfl⟩, rfl, rfl⟩)), h⟩
theorem xr_lstore_n {k : Fin 4} {v : Int64} (d : decode cc pc = .ok (.lstore_n k, 1))  : x_WP B rt cx cc K pc ls (.long v :: r) σ ↔ (k.val + 1 < ls.length ∧ x_nl ls k.val ∧ x_WP B rt cx cc K (pc + 1) ((ls.set k.val (.long v)).set (k.val + 1) (.retAddr 0)) r σ) := by
  refine xr_of d rfl ⟨?_, ?_⟩
  · rintro (⟨a1, b1, c1, e1, h1, h2⟩ | ⟨v1, h1, h2⟩)
    · simp only [x_i, x_pure, x_load, x_store, x_jump, x_mem, x_call, false_and, or_false, false_or] at h1
      obtain ⟨⟨v, h3, h4, h5, rfl⟩, rfl, rfl⟩ := h1
      cases h3
      exact ⟨h4, h5, h2⟩
    · exact h1.elim
  · exact fun ⟨h4, h5, h⟩ => Or.inl ⟨_, _, _, _, Or.inr (Or.inr (Or.inl ⟨⟨_, rfl, h4, h5, rfl⟩, rfl, rfl⟩)), h⟩
theorem xr_iinc {k : Nat} {dd : Int} {e : Int32} (d : decode cc pc = .ok (.iinc k dd, 3)) (he : Int32.ofInt dd = e) : x_WP B rt cx cc K pc ls r σ ↔ ∃ v, ls[k]? = some (.int v) ∧ x_nl ls k ∧ x_WP B rt cx cc K (pc + 3) (ls.set k (.int (v + e))) r σ := by
  subst he
  refine xr_of d rfl ⟨?_, ?_⟩
  · rintro (⟨a1, b1, c1, e1, h1, h2⟩ | ⟨v1, h1, h2⟩)
    · simp only [x_i, x_pure, x_load, x_store, x_jump, x_mem, x_call, false_and, or_false, false_or] at h1
      obtain ⟨⟨v, h3, h4, rfl, rfl⟩, rfl, rfl⟩ := h1
      exact ⟨v, h3, h4, h2⟩
    · exact h1.elim
  · exact fun ⟨v, h3, h4, h⟩ => Or.inl ⟨_, _, _, _, Or.inr (Or.inr (Or.inl ⟨⟨v, h3, h4, rfl, rfl⟩, rfl, rfl⟩)), h⟩
theorem xr_goto {off : Int} {tgt : Nat} (d : decode cc pc = .ok (.goto off, 3)) (ht : (pc : Int) + off = (tgt : Int)) : x_WP B rt cx cc K pc ls r σ ↔ x_WP B rt cx cc K tgt ls r σ := by
  refine xr_of d rfl ⟨?_, ?_⟩
  · rintro (⟨a1, b1, c1, e1, h1, h2⟩ | ⟨v1, h1, h2⟩)
    · simp only [x_i, x_pure, x_load, x_store, x_jump, x_mem, x_call, false_and, or_false, false_or] at h1
      obtain ⟨⟨h3, rfl⟩, rfl, rfl⟩ := h1
      cases Int.ofNat.inj (ht.symm.trans h3)
      exact h2
    · exact h1.elim
  · exact fun h => Or.inl ⟨_, _, _, _, Or.inr (Or.inr (Or.inr (Or.inl ⟨⟨ht, rfl⟩, rfl, rfl⟩))), h⟩
theorem xr_if {cd : ClassFile.Cond} {a : Int32} {off : Int} {tgt : Nat} (d : decode cc pc = .ok (.ifCond cd off, 3)) (ht : (pc : Int) + off = (tgt : Int)) : x_WP B rt cx cc K pc ls (.int a :: r) σ ↔ ((x_cnd cd a 0 → x_WP B rt cx cc K tgt ls r σ) ∧ (¬ x_cnd cd a 0 → x_WP B rt cx cc K (pc + 3) ls r σ)) := by
  refine xr_of d rfl ⟨?_, ?_⟩
  · rintro (⟨a1, b1, c1, e1, h1, h2⟩ | ⟨v1, h1, h2⟩)
    · simp only [x_i, x_pure, x_load, x_store, x_jump, x_mem, x_call, false_and, or_false, false_or] at h1
      obtain ⟨⟨x, tg, h3, h6, h4⟩, rfl, rfl⟩ := h1
      cases h3
      cases Int.ofNat.inj (ht.symm.trans h6)
      rcases h4 with ⟨h5, rfl⟩ | ⟨h5, rfl⟩
      · exact ⟨fun _ => h2, fun q => absurd h5 q⟩
      · exact ⟨fun q => absurd q h5, fun _ => h2⟩
    · exact h1.elim
  · intro h
    by_cases hc : x_cnd cd a 0
    · exact Or.inl ⟨_, _, _, _, Or.inr (Or.inr (Or.inr (Or.inl ⟨⟨_, tgt, rfl, ht, Or.inl ⟨hc, rfl⟩⟩, rfl, rfl⟩))), h.1 hc⟩
    · exact Or.inl ⟨_, _, _, _, Or.inr (Or.inr (Or.inr (Or.inl ⟨⟨_, tgt, rfl, ht, Or.inr ⟨hc, rfl⟩⟩, rfl, rfl⟩))), h.2 hc⟩
theorem xr_icmp {cd : ClassFile.Cond} {a b : Int32} {off : Int} {tgt : Nat} (d : decode cc pc = .ok (.if_icmp cd off, 3)) (ht : (pc : Int) + off = (tgt : Int)) : x_WP B rt cx cc K pc ls (.int b :: .int a :: r) σ ↔ ((x_cnd cd a b → x_WP B rt cx cc K tgt ls r σ) ∧ (¬ x_cnd cd a b → x_WP B rt cx cc K (pc + 3) ls r σ)) := by
  refine xr_of d rfl ⟨?_, ?_⟩
  · rintro (⟨a1, b1, c1, e1, h1, h2⟩ | ⟨v1, h1, h2⟩)
    · simp only [x_i, x_pure, x_load, x_store, x_jump, x_mem, x_call, false_and, or_false, false_or] at h1
      obtain ⟨⟨x, y, tg, h3, h6, h4⟩, rfl, rfl⟩ := h1
      cases h3
      cases Int.ofNat.inj (ht.symm.trans h6)
      rcases h4 with ⟨h5, rfl⟩ | ⟨h5, rfl⟩
      · exact ⟨fun _ => h2, fun q => absurd h5 q⟩
      · exact ⟨fun q => absurd q h5, fun _ => h2⟩
    · exact h1.elim
  · intro h
    by_cases hc : x_cnd cd a b
    · exact Or.inl ⟨_, _, _, _, Or.inr (Or.inr (Or.inr (Or.inl ⟨⟨_, _, tgt, rfl, ht, Or.inl ⟨hc, rfl⟩⟩, rfl, rfl⟩))), h.1 hc⟩
    · exact Or.inl ⟨_, _, _, _, Or.inr (Or.inr (Or.inr (Or.inl ⟨⟨_, _, tgt, rfl, ht, Or.inr ⟨hc, rfl⟩⟩, rfl, rfl⟩))), h.2 hc⟩
theorem xr_acmp_eq {a b : Value} {off : Int} {tgt : Nat} (d : decode cc pc = .ok (.if_acmp .eq off, 3)) (ht : (pc : Int) + off = (tgt : Int)) : x_WP B rt cx cc K pc ls (b :: a :: r) σ ↔ (x_rfv a ∧ x_rfv b ∧ ((a = b → x_WP B rt cx cc K tgt ls r σ) ∧ (¬ a = b → x_WP B rt cx cc K (pc + 3) ls r σ))) := by
  refine xr_of d rfl ⟨?_, ?_⟩
  · rintro (⟨a1, b1, c1, e1, h1, h2⟩ | ⟨v1, h1, h2⟩)
    · simp only [x_i, x_pure, x_load, x_store, x_jump, x_mem, x_call, false_and, or_false, false_or] at h1
      obtain ⟨⟨x, y, tg, h3, h7, h8, h6, h4⟩, rfl, rfl⟩ := h1
      cases h3
      cases Int.ofNat.inj (ht.symm.trans h6)
      rcases h4 with ⟨h5, rfl⟩ | ⟨h5, rfl⟩
      · exact ⟨h7, h8, fun _ => h2, fun q => absurd h5 q⟩
      · exact ⟨h7, h8, fun q => absurd q h5, fun _ => h2⟩
    · exact h1.elim
  · rintro ⟨h7, h8, ha, hb⟩
    by_cases hc : a = b
    · exact Or.inl ⟨_, _, _, _, Or.inr (Or.inr (Or.inr (Or.inl ⟨⟨_, _, tgt, rfl, h7, h8, ht, Or.inl ⟨hc, rfl⟩⟩, rfl, rfl⟩))), ha hc⟩
    · exact Or.inl ⟨_, _, _, _, Or.inr (Or.inr (Or.inr (Or.inl ⟨⟨_, _, tgt, rfl, h7, h8, ht, Or.inr ⟨hc, rfl⟩⟩, rfl, rfl⟩))), hb hc⟩
theorem xr_acmp_ne {a b : Value} {off : Int} {tgt : Nat} (d : decode cc pc = .ok (.if_acmp .ne off, 3)) (ht : (pc : Int) + off = (tgt : Int)) : x_WP B rt cx cc K pc ls (b :: a :: r) σ ↔ (x_rfv a ∧ x_rfv b ∧ ((a = b → x_WP B rt cx cc K (pc + 3) ls r σ) ∧ (¬ a = b → x_WP B rt cx cc K tgt ls r σ))) := by
  refine xr_of d rfl ⟨?_, ?_⟩
  · rintro (⟨a1, b1, c1, e1, h1, h2⟩ | ⟨v1, h1, h2⟩)
    · simp only [x_i, x_pure, x_load, x_store, x_jump, x_mem, x_call, false_and, or_false, false_or] at h1
      obtain ⟨⟨x, y, tg, h3, h7, h8, h6, h4⟩, rfl, rfl⟩ := h1
      cases h3
      cases Int.ofNat.inj (ht.symm.trans h6)
      rcases h4 with ⟨h5, rfl⟩ | ⟨h5, rfl⟩
      · exact ⟨h7, h8, fun q => absurd q h5, fun _ => h2⟩
      · exact ⟨h7, h8, fun _ => h2, fun q => absurd h5 q⟩
    · exact h1.elim
  · rintro ⟨h7, h8, ha, hb⟩
    by_cases hc : a = b
    · exact Or.inl ⟨_, _, _, _, Or.inr (Or.inr (Or.inr (Or.inl ⟨⟨_, _, tgt, rfl, h7, h8, ht, Or.inr ⟨hc, rfl⟩⟩, rfl, rfl⟩))), ha hc⟩
    · exact Or.inl ⟨_, _, _, _, Or.inr (Or.inr (Or.inr (Or.inl ⟨⟨_, _, tgt, rfl, h7, h8, ht, Or.inl ⟨hc, rfl⟩⟩, rfl, rfl⟩))), hb hc⟩
theorem xr_ifnull {a : Value} {off : Int} {tgt : Nat} (d : decode cc pc = .ok (.ifnull off, 3)) (ht : (pc : Int) + off = (tgt : Int)) : x_WP B rt cx cc K pc ls (a :: r) σ ↔ (x_rfv a ∧ ((a = .null → x_WP B rt cx cc K tgt ls r σ) ∧ (¬ a = .null → x_WP B rt cx cc K (pc + 3) ls r σ))) := by
  refine xr_of d rfl ⟨?_, ?_⟩
  · rintro (⟨a1, b1, c1, e1, h1, h2⟩ | ⟨v1, h1, h2⟩)
    · simp only [x_i, x_pure, x_load, x_store, x_jump, x_mem, x_call, false_and, or_false, false_or] at h1
      obtain ⟨⟨x, tg, h3, h7, h6, h4⟩, rfl, rfl⟩ := h1
      cases h3
      cases Int.ofNat.inj (ht.symm.trans h6)
      rcases h4 with ⟨h5, rfl⟩ | ⟨h5, rfl⟩
      · exact ⟨h7, fun _ => h2, fun q => absurd h5 q⟩
      · exact ⟨h7, fun q => absurd q h5, fun _ => h2⟩
    · exact h1.elim
  · rintro ⟨h7, ha, hb⟩
    by_cases hc : a = .null
    · exact Or.inl ⟨_, _, _, _, Or.inr (Or.inr (Or.inr (Or.inl ⟨⟨_, tgt, rfl, h7, ht, Or.inl ⟨hc, rfl⟩⟩, rfl, rfl⟩))), ha hc⟩
    · exact Or.inl ⟨_, _, _, _, Or.inr (Or.inr (Or.inr (Or.inl ⟨⟨_, tgt, rfl, h7, ht, Or.inr ⟨hc, rfl⟩⟩, rfl, rfl⟩))), hb hc⟩
theorem xr_ifnonnull {a : Value} {off : Int} {tgt : Nat} (d : decode cc pc = .ok (.ifnonnull off, 3)) (ht : (pc : Int) + off = (tgt : Int)) : x_WP B rt cx cc K pc ls (a :: r) σ ↔ (x_rfv a ∧ ((a = .null → x_WP B rt cx cc K (pc + 3) ls r σ) ∧ (¬ a = .null → x_WP B rt cx cc K tgt ls r σ))) := by
  refine xr_of d rfl ⟨?_, ?_⟩
  · rintro (⟨a1, b1, c1, e1, h1, h2⟩ | ⟨v1, h1, h2⟩)
    · simp only [x_i, x_pure, x_load, x_store, x_jump, x_mem, x_call, false_and, or_false, false_or] at h1
      obtain ⟨⟨x, tg, h3, h7, h6, h4⟩, rfl, rfl⟩ := h1
      cases h3
      cases Int.ofNat.inj (ht.symm.trans h6)
      rcases h4 with ⟨h5, rfl⟩ | ⟨h5, rfl⟩
      · exact ⟨h7, fun q => absurd q h5, fun _ => h2⟩
      · exact ⟨h7, fun _ => h2, fun q => absurd h5 q⟩
    · exact h1.elim
  · rintro ⟨h7, ha, hb⟩
    by_cases hc : a = .null
    · exact Or.inl ⟨_, _, _, _, Or.inr (Or.inr (Or.inr (Or.inl ⟨⟨_, tgt, rfl, h7, ht, Or.inr ⟨hc, rfl⟩⟩, rfl, rfl⟩))), ha hc⟩
    · exact Or.inl ⟨_, _, _, _, Or.inr (Or.inr (Or.inr (Or.inl ⟨⟨_, tgt, rfl, h7, ht, Or.inl ⟨hc, rfl⟩⟩, rfl, rfl⟩))), hb hc⟩
theorem xr_getfield {k t j a : Nat} {ty : FieldType} {wr : Bool} (d : decode cc pc = .ok (.getfield k, 3)) (hf : cx.1 k = some (t, j, ty, wr)) (ht : t ≠ 107 := by decide) : x_WP B rt cx cc K pc ls (.ref a :: r) σ ↔ ∃ fs v, σ.1 a = some (t, fs) ∧ fs[j]? = some v ∧ x_WP B rt cx cc K (pc + 3) ls (v :: r) σ := by
  refine xr_of d rfl ⟨?_, ?_⟩
  · rintro (⟨a1, b1, c1, e1, h1, h2⟩ | ⟨v1, h1, h2⟩)
    · simp only [x_i, x_pure, x_load, x_store, x_jump, x_mem, x_call, false_and, or_false, false_or] at h1
      obtain ⟨⟨x, y, t2, j2, ty2, wr2, fs, v, h3, h4, h5, h6, rfl, rfl⟩, rfl, rfl⟩ := h1
      cases h3
      cases hf.symm.trans h4
      rcases h5 with ⟨-, h5⟩ | ⟨h5, -⟩
      · exact ⟨fs, v, h5, h6, h2⟩
      · exact absurd h5 ht
    · exact h1.elim
  · exact fun ⟨fs, v, h5, h6, h⟩ => Or.inl ⟨_, _, _, _, Or.inr (Or.inr (Or.inr (Or.inr (Or.inl ⟨⟨_, _, t, j, ty, wr, fs, v, rfl, hf, Or.inl ⟨ht, h5⟩, h6, rfl, rfl⟩, rfl, rfl⟩)))), h⟩
theorem xr_getkind {k a : Nat} {ty : FieldType} {wr : Bool} {ad : Nat → Nat} (d : decode cc pc = .ok (.getfield k, 3)) (hf : cx.1 k = some (107, 0, ty, wr)) (hs : ∀ i : Nat, i < 6 → cx.2.2.2.2.1 (1000000 + i) = some (.ref (ad i))) : x_WP B rt cx cc K pc ls (.ref a :: r) σ ↔ ∃ i : Nat, i < 6 ∧ ad i = a ∧ x_WP B rt cx cc K (pc + 3) ls (.int (if 1 ≤ i ∧ i ≤ 3 then 1 else 0) :: r) σ := by
  refine xr_of d rfl ⟨?_, ?_⟩
  · rintro (⟨a1, b1, c1, e1, h1, h2⟩ | ⟨v1, h1, h2⟩)
    · simp only [x_i, x_pure, x_load, x_store, x_jump, x_mem, x_call, false_and, or_false, false_or] at h1
      obtain ⟨⟨x, y, t2, j2, ty2, wr2, fs, v, h3, h4, h5, h6, rfl, rfl⟩, rfl, rfl⟩ := h1
      cases h3
      cases hf.symm.trans h4
      rcases h5 with ⟨h5, -⟩ | ⟨-, i, hi, h5, rfl⟩
      · exact absurd rfl h5
      · cases h6
        have h7 : Value.ref (ad i) = Value.ref a := Option.some.inj ((hs i hi).symm.trans h5)
        exact ⟨i, hi, Value.ref.inj h7, h2⟩
    · exact h1.elim
  · exact fun ⟨i, hi, h5, h⟩ => Or.inl ⟨_, _, _, _, Or.inr (Or.inr (Or.inr (Or.inr (Or.inl ⟨⟨_, _, 107, 0, ty, wr, [.int (if 1 ≤ i ∧ i ≤ 3 then 1 else 0)], _, rfl, hf, Or.inr ⟨rfl, i, hi, by rw [hs i hi, h5], rfl⟩, rfl, rfl, rfl⟩, rfl, rfl⟩)))), h⟩
theorem xr_putfield {k t j a : Nat} {ty : FieldType} {v : Value} (d : decode cc pc = .ok (.putfield k, 3)) (hf : cx.1 k = some (t, j, ty, true)) : x_WP B rt cx cc K pc ls (v :: .ref a :: r) σ ↔ ∃ fs, σ.1 a = some (t, fs) ∧ j < fs.length ∧ t < 100 ∧ B ≤ a ∧ x_fit ty v ∧ x_WP B rt cx cc K (pc + 3) ls r (x_up σ.1 a (t, fs.set j v), σ.2) := by
  refine xr_of d rfl ⟨?_, ?_⟩
  · rintro (⟨a1, b1, c1, e1, h1, h2⟩ | ⟨v1, h1, h2⟩)
    · simp only [x_i, x_pure, x_load, x_store, x_jump, x_mem, x_call, false_and, or_false, false_or] at h1
      obtain ⟨⟨x, y, t2, j2, ty2, fs, h3, h4, h5, h6, h7, h8, h9, rfl⟩, rfl, rfl⟩ := h1
      cases h3
      cases hf.symm.trans h4
      exact ⟨fs, h5, h6, h7, h8, h9, h2⟩
    · exact h1.elim
  · exact fun ⟨fs, h5, h6, h7, h8, h9, h⟩ => Or.inl ⟨_, _, _, _, Or.inr (Or.inr (Or.inr (Or.inr (Or.inl ⟨⟨_, _, t, j, ty, fs, rfl, hf, h5, h6, h7, h8, h9, rfl⟩, rfl, rfl⟩)))), h⟩
theorem xr_new {k t : Nat} {fs : List Value} (d : decode cc pc = .ok (.new k, 3)) (hf : cx.2.2.1 k = some (t, fs)) : x_WP B rt cx cc K pc ls r σ ↔ x_WP B rt cx cc K (pc + 3) ls (.ref σ.2.1 :: r) (x_up σ.1 σ.2.1 (t, fs), σ.2.1 + 1, σ.2.2 + fs.length) := by
  refine xr_of d rfl ⟨?_, ?_⟩
  · rintro (⟨a1, b1, c1, e1, h1, h2⟩ | ⟨v1, h1, h2⟩)
    · simp only [x_i, x_pure, x_load, x_store, x_jump, x_mem, x_call, false_and, or_false, false_or] at h1
      obtain ⟨⟨t2, fs2, h4, rfl, rfl⟩, rfl, rfl⟩ := h1
      cases hf.symm.trans h4
      exact h2
    · exact h1.elim
  · exact fun h => Or.inl ⟨_, _, _, _, Or.inr (Or.inr (Or.inr (Or.inr (Or.inl ⟨⟨t, fs, hf, rfl, rfl⟩, rfl, rfl⟩)))), h⟩
theorem xr_newarray {at_ : ArrayType} {t : Nat} {dv : Value} {m : Int32} (d : decode cc pc = .ok (.newarray at_, 2)) (hf : x_nak at_ = some (t, dv)) : x_WP B rt cx cc K pc ls (.int m :: r) σ ↔ (¬ m.toInt < 0 ∧ m.toInt ≤ 60000000 ∧ x_WP B rt cx cc K (pc + 2) ls (.ref σ.2.1 :: r) (x_up σ.1 σ.2.1 (t, List.replicate m.toInt.toNat dv), σ.2.1 + 1, σ.2.2 + m.toInt.toNat)) := by
  refine xr_of d rfl ⟨?_, ?_⟩
  · rintro (⟨a1, b1, c1, e1, h1, h2⟩ | ⟨v1, h1, h2⟩)
    · simp only [x_i, x_pure, x_load, x_store, x_jump, x_mem, x_call, false_and, or_false, false_or] at h1
      obtain ⟨⟨t2, d2, m2, r2, h4, h3, h5, h6, rfl, rfl⟩, rfl, rfl⟩ := h1
      cases h3
      cases hf.symm.trans h4
      exact ⟨h5, h6, h2⟩
    · exact h1.elim
  · exact fun ⟨h5, h6, h⟩ => Or.inl ⟨_, _, _, _, Or.inr (Or.inr (Or.inr (Or.inr (Or.inl ⟨⟨t, dv, _, _, hf, rfl, h5, h6, rfl, rfl⟩, rfl, rfl⟩)))), h⟩
theorem xr_anewarray {k t : Nat} {m : Int32} (d : decode cc pc = .ok (.anewarray k, 3)) (hf : cx.2.2.2.1 k = some t) : x_WP B rt cx cc K pc ls (.int m :: r) σ ↔ (¬ m.toInt < 0 ∧ m.toInt ≤ 60000000 ∧ x_WP B rt cx cc K (pc + 3) ls (.ref σ.2.1 :: r) (x_up σ.1 σ.2.1 (t, List.replicate m.toInt.toNat .null), σ.2.1 + 1, σ.2.2 + m.toInt.toNat)) := by
  refine xr_of d rfl ⟨?_, ?_⟩
  · rintro (⟨a1, b1, c1, e1, h1, h2⟩ | ⟨v1, h1, h2⟩)
    · simp only [x_i, x_pure, x_load, x_store, x_jump, x_mem, x_call, false_and, or_false, false_or] at h1
      obtain ⟨⟨t2, m2, r2, h4, h3, h5, h6, rfl, rfl⟩, rfl, rfl⟩ := h1
      cases h3
      cases hf.symm.trans h4
      exact ⟨h5, h6, h2⟩
    · exact h1.elim
  · exact fun ⟨h5, h6, h⟩ => Or.inl ⟨_, _, _, _, Or.inr (Or.inr (Or.inr (Or.inr (Or.inl ⟨⟨t, _, _, hf, rfl, h5, h6, rfl, rfl⟩, rfl, rfl⟩)))), h⟩
theorem xr_alen {a : Nat} (d : decode cc pc = .ok (.arraylength, 1))  : x_WP B rt cx cc K pc ls (.ref a :: r) σ ↔ ∃ t L, σ.1 a = some (t, L) ∧ 100 ≤ t ∧ t ≤ 106 ∧ x_WP B rt cx cc K (pc + 1) ls (.int (Int32.ofNat L.length) :: r) σ := by
  refine xr_of d rfl ⟨?_, ?_⟩
  · rintro (⟨a1, b1, c1, e1, h1, h2⟩ | ⟨v1, h1, h2⟩)
    · simp only [x_i, x_pure, x_load, x_store, x_jump, x_mem, x_call, false_and, or_false, false_or] at h1
      obtain ⟨⟨x, y, t, L, h3, h4, h5, h6, rfl, rfl⟩, rfl, rfl⟩ := h1
      cases h3
      exact ⟨t, L, h4, h5, h6, h2⟩
    · exact h1.elim
  · exact fun ⟨t, L, h4, h5, h6, h⟩ => Or.inl ⟨_, _, _, _, Or.inr (Or.inr (Or.inr (Or.inr (Or.inl ⟨⟨_, _, t, L, rfl, h4, h5, h6, rfl, rfl⟩, rfl, rfl⟩)))), h⟩
theorem xr_iaload {a : Nat} {j : Int32} (d : decode cc pc = .ok (.iaload, 1))  : x_WP B rt cx cc K pc ls (.int j :: .ref a :: r) σ ↔ ∃ t L v, σ.1 a = some (t, L) ∧ (t = 100 ∨ t = 106) ∧ x_ix j L = some v ∧ x_WP B rt cx cc K (pc + 1) ls (v :: r) σ := by
  refine xr_of d rfl ⟨?_, ?_⟩
  · rintro (⟨a1, b1, c1, e1, h1, h2⟩ | ⟨v1, h1, h2⟩)
    · simp only [x_i, x_pure, x_load, x_store, x_jump, x_mem, x_call, false_and, or_false, false_or] at h1
      obtain ⟨⟨x, y, z, t, L, v, h3, h4, h5, h6, rfl, rfl⟩, rfl, rfl⟩ := h1
      cases h3
      exact ⟨t, L, v, h4, h5, h6, h2⟩
    · exact h1.elim
  · exact fun ⟨t, L, v, h4, h5, h6, h⟩ => Or.inl ⟨_, _, _, _, Or.inr (Or.inr (Or.inr (Or.inr (Or.inl ⟨⟨_, _, _, t, L, v, rfl, h4, h5, h6, rfl, rfl⟩, rfl, rfl⟩)))), h⟩
theorem xr_laload {a : Nat} {j : Int32} (d : decode cc pc = .ok (.laload, 1))  : x_WP B rt cx cc K pc ls (.int j :: .ref a :: r) σ ↔ ∃ L v, σ.1 a = some (101, L) ∧ x_ix j L = some v ∧ x_WP B rt cx cc K (pc + 1) ls (v :: r) σ := by
  refine xr_of d rfl ⟨?_, ?_⟩
  · rintro (⟨a1, b1, c1, e1, h1, h2⟩ | ⟨v1, h1, h2⟩)
    · simp only [x_i, x_pure, x_load, x_store, x_jump, x_mem, x_call, false_and, or_false, false_or] at h1
      obtain ⟨⟨x, y, z, L, v, h3, h4, h6, rfl, rfl⟩, rfl, rfl⟩ := h1
      cases h3
      exact ⟨L, v, h4, h6, h2⟩
    · exact h1.elim
  · exact fun ⟨L, v, h4, h6, h⟩ => Or.inl ⟨_, _, _, _, Or.inr (Or.inr (Or.inr (Or.inr (Or.inl ⟨⟨_, _, _, L, v, rfl, h4, h6, rfl, rfl⟩, rfl, rfl⟩)))), h⟩
theorem xr_baload {a : Nat} {j : Int32} (d : decode cc pc = .ok (.baload, 1))  : x_WP B rt cx cc K pc ls (.int j :: .ref a :: r) σ ↔ ∃ L v, σ.1 a = some (102, L) ∧ x_ix j L = some v ∧ x_WP B rt cx cc K (pc + 1) ls (v :: r) σ := by
  refine xr_of d rfl ⟨?_, ?_⟩
  · rintro (⟨a1, b1, c1, e1, h1, h2⟩ | ⟨v1, h1, h2⟩)
    · simp only [x_i, x_pure, x_load, x_store, x_jump, x_mem, x_call, false_and, or_false, false_or] at h1
      obtain ⟨⟨x, y, z, L, v, h3, h4, h6, rfl, rfl⟩, rfl, rfl⟩ := h1
      cases h3
      exact ⟨L, v, h4, h6, h2⟩
    · exact h1.elim
  · exact fun ⟨L, v, h4, h6, h⟩ => Or.inl ⟨_, _, _, _, Or.inr (Or.inr (Or.inr (Or.inr (Or.inl ⟨⟨_, _, _, L, v, rfl, h4, h6, rfl, rfl⟩, rfl, rfl⟩)))), h⟩
theorem xr_aaload {a : Nat} {j : Int32} (d : decode cc pc = .ok (.aaload, 1))  : x_WP B rt cx cc K pc ls (.int j :: .ref a :: r) σ ↔ ∃ t L v, σ.1 a = some (t, L) ∧ (t = 103 ∨ t = 104 ∨ t = 105) ∧ x_ix j L = some v ∧ x_WP B rt cx cc K (pc + 1) ls (v :: r) σ := by
  refine xr_of d rfl ⟨?_, ?_⟩
  · rintro (⟨a1, b1, c1, e1, h1, h2⟩ | ⟨v1, h1, h2⟩)
    · simp only [x_i, x_pure, x_load, x_store, x_jump, x_mem, x_call, false_and, or_false, false_or] at h1
      obtain ⟨⟨x, y, z, t, L, v, h3, h4, h5, h6, rfl, rfl⟩, rfl, rfl⟩ := h1
      cases h3
      exact ⟨t, L, v, h4, h5, h6, h2⟩
    · exact h1.elim
  · exact fun ⟨t, L, v, h4, h5, h6, h⟩ => Or.inl ⟨_, _, _, _, Or.inr (Or.inr (Or.inr (Or.inr (Or.inl ⟨⟨_, _, _, t, L, v, rfl, h4, h5, h6, rfl, rfl⟩, rfl, rfl⟩)))), h⟩
theorem xr_iastore {a : Nat} {j : Int32} {x : Int32} (d : decode cc pc = .ok (.iastore, 1))  : x_WP B rt cx cc K pc ls (.int x :: .int j :: .ref a :: r) σ ↔ ∃ L, σ.1 a = some (100, L) ∧ (x_ix j L).isSome ∧ B ≤ a ∧ x_WP B rt cx cc K (pc + 1) ls r (x_up σ.1 a (100, L.set j.toInt.toNat (.int x)), σ.2) := by
  refine xr_of d rfl ⟨?_, ?_⟩
  · rintro (⟨a1, b1, c1, e1, h1, h2⟩ | ⟨v1, h1, h2⟩)
    · simp only [x_i, x_pure, x_load, x_store, x_jump, x_mem, x_call, false_and, or_false, false_or] at h1
      obtain ⟨⟨x, y, z, L, h3, h4, h6, h7, rfl⟩, rfl, rfl⟩ := h1
      cases h3
      exact ⟨L, h4, h6, h7, h2⟩
    · exact h1.elim
  · exact fun ⟨L, h4, h6, h7, h⟩ => Or.inl ⟨_, _, _, _, Or.inr (Or.inr (Or.inr (Or.inr (Or.inl ⟨⟨_, _, _, L, rfl, h4, h6, h7, rfl⟩, rfl, rfl⟩)))), h⟩
theorem xr_lastore {a : Nat} {j : Int32} {x : Int64} (d : decode cc pc = .ok (.lastore, 1))  : x_WP B rt cx cc K pc ls (.long x :: .int j :: .ref a :: r) σ ↔ ∃ L, σ.1 a = some (101, L) ∧ (x_ix j L).isSome ∧ B ≤ a ∧ x_WP B rt cx cc K (pc + 1) ls r (x_up σ.1 a (101, L.set j.toInt.toNat (.long x)), σ.2) := by
  refine xr_of d rfl ⟨?_, ?_⟩
  · rintro (⟨a1, b1, c1, e1, h1, h2⟩ | ⟨v1, h1, h2⟩)
    · simp only [x_i, x_pure, x_load, x_store, x_jump, x_mem, x_call, false_and, or_false, false_or] at h1
      obtain ⟨⟨x, y, z, L, h3, h4, h6, h7, rfl⟩, rfl, rfl⟩ := h1
      cases h3
      exact ⟨L, h4, h6, h7, h2⟩
    · exact h1.elim
  · exact fun ⟨L, h4, h6, h7, h⟩ => Or.inl ⟨_, _, _, _, Or.inr (Or.inr (Or.inr (Or.inr (Or.inl ⟨⟨_, _, _, L, rfl, h4, h6, h7, rfl⟩, rfl, rfl⟩)))), h⟩
theorem xr_bastore {a : Nat} {j x : Int32} (d : decode cc pc = .ok (.bastore, 1))  : x_WP B rt cx cc K pc ls (.int x :: .int j :: .ref a :: r) σ ↔ ∃ L, σ.1 a = some (102, L) ∧ (x = 0 ∨ x = 1) ∧ (x_ix j L).isSome ∧ B ≤ a ∧ x_WP B rt cx cc K (pc + 1) ls r (x_up σ.1 a (102, L.set j.toInt.toNat (.int x)), σ.2) := by
  refine xr_of d rfl ⟨?_, ?_⟩
  · rintro (⟨a1, b1, c1, e1, h1, h2⟩ | ⟨v1, h1, h2⟩)
    · simp only [x_i, x_pure, x_load, x_store, x_jump, x_mem, x_call, false_and, or_false, false_or] at h1
      obtain ⟨⟨x, y, z, L, h3, h4, h5, h6, h7, rfl⟩, rfl, rfl⟩ := h1
      cases h3
      exact ⟨L, h4, h5, h6, h7, h2⟩
    · exact h1.elim
  · exact fun ⟨L, h4, h5, h6, h7, h⟩ => Or.inl ⟨_, _, _, _, Or.inr (Or.inr (Or.inr (Or.inr (Or.inl ⟨⟨_, _, _, L, rfl, h4, h5, h6, h7, rfl⟩, rfl, rfl⟩)))), h⟩
theorem xr_aastore {a x : Nat} {j : Int32} (d : decode cc pc = .ok (.aastore, 1))  : x_WP B rt cx cc K pc ls (.ref x :: .int j :: .ref a :: r) σ ↔ ∃ t L t2 fs, σ.1 a = some (t, L) ∧ σ.1 x = some (t2, fs) ∧ ((t = 103 ∧ t2 = 3) ∨ (t = 104 ∧ t2 = 2) ∨ (t = 105 ∧ t2 = 6)) ∧ (x_ix j L).isSome ∧ B ≤ a ∧ x_WP B rt cx cc K (pc + 1) ls r (x_up σ.1 a (t, L.set j.toInt.toNat (.ref x)), σ.2) := by
  refine xr_of d rfl ⟨?_, ?_⟩
  · rintro (⟨a1, b1, c1, e1, h1, h2⟩ | ⟨v1, h1, h2⟩)
    · simp only [x_i, x_pure, x_load, x_store, x_jump, x_mem, x_call, false_and, or_false, false_or] at h1
      obtain ⟨⟨x, y, z, t, L, t2, fs, h3, h4, h5, h6, h7, h8, rfl⟩, rfl, rfl⟩ := h1
      cases h3
      exact ⟨t, L, t2, fs, h4, h5, h6, h7, h8, h2⟩
    · exact h1.elim
  · exact fun ⟨t, L, t2, fs, h4, h5, h6, h7, h8, h⟩ => Or.inl ⟨_, _, _, _, Or.inr (Or.inr (Or.inr (Or.inr (Or.inl ⟨⟨_, _, _, t, L, t2, fs, rfl, h4, h5, h6, h7, h8, rfl⟩, rfl, rfl⟩)))), h⟩
theorem xr_invokevirtual {k m : Nat} {E : xR} {st : List Value} (d : decode cc pc = .ok (.invokevirtual k, 3)) (hf : cx.2.2.2.2.2 k = some (0, m, E)) : x_WP B rt cx cc K pc ls st σ ↔ (m ≤ st.length ∧ (((st.drop m).map fun v => v.category).sum ≤ 8) ∧ x_cl E (st.take m).reverse σ (fun v g => x_WP B rt cx cc K (pc + 3) ls (v.toList ++ st.drop m) g)) := by
  refine xr_of d rfl ⟨?_, ?_⟩
  · rintro (⟨a1, b1, c1, e1, h1, h2⟩ | ⟨v1, h1, h2⟩)
    · simp only [x_i, x_pure, x_load, x_store, x_jump, x_mem, x_call, false_and, or_false, false_or] at h1
      obtain ⟨⟨m2, E2, v, h3, h4, h5, h6, rfl⟩, rfl, rfl⟩ := h1
      cases hf.symm.trans h3
      exact ⟨h4, h5, v, _, h6, h2⟩
    · exact h1.elim
  · exact fun ⟨h4, h5, v, g, h6, h⟩ => Or.inl ⟨_, _, _, _, Or.inr (Or.inr (Or.inr (Or.inr (Or.inr ⟨⟨m, E, v, hf, h4, h5, h6, rfl⟩, rfl, rfl⟩)))), h⟩
theorem xr_invokestatic {k m : Nat} {E : xR} {st : List Value} (d : decode cc pc = .ok (.invokestatic k, 3)) (hf : cx.2.2.2.2.2 k = some (1, m, E)) : x_WP B rt cx cc K pc ls st σ ↔ (m ≤ st.length ∧ (((st.drop m).map fun v => v.category).sum ≤ 8) ∧ x_cl E (st.take m).reverse σ (fun v g => x_WP B rt cx cc K (pc + 3) ls (v.toList ++ st.drop m) g)) := by
  refine xr_of d rfl ⟨?_, ?_⟩
  · rintro (⟨a1, b1, c1, e1, h1, h2⟩ | ⟨v1, h1, h2⟩)
    · simp only [x_i, x_pure, x_load, x_store, x_jump, x_mem, x_call, false_and, or_false, false_or] at h1
      obtain ⟨⟨m2, E2, v, h3, h4, h5, h6, rfl⟩, rfl, rfl⟩ := h1
      cases hf.symm.trans h3
      exact ⟨h4, h5, v, _, h6, h2⟩
    · exact h1.elim
  · exact fun ⟨h4, h5, v, g, h6, h⟩ => Or.inl ⟨_, _, _, _, Or.inr (Or.inr (Or.inr (Or.inr (Or.inr ⟨⟨m, E, v, hf, h4, h5, h6, rfl⟩, rfl, rfl⟩)))), h⟩
theorem xr_invokespecial {k m : Nat} {E : xR} {st : List Value} (d : decode cc pc = .ok (.invokespecial k, 3)) (hf : cx.2.2.2.2.2 k = some (2, m, E)) : x_WP B rt cx cc K pc ls st σ ↔ (m ≤ st.length ∧ (((st.drop m).map fun v => v.category).sum ≤ 8) ∧ x_cl E (st.take m).reverse σ (fun v g => x_WP B rt cx cc K (pc + 3) ls (v.toList ++ st.drop m) g)) := by
  refine xr_of d rfl ⟨?_, ?_⟩
  · rintro (⟨a1, b1, c1, e1, h1, h2⟩ | ⟨v1, h1, h2⟩)
    · simp only [x_i, x_pure, x_load, x_store, x_jump, x_mem, x_call, false_and, or_false, false_or] at h1
      obtain ⟨⟨m2, E2, v, h3, h4, h5, h6, rfl⟩, rfl, rfl⟩ := h1
      cases hf.symm.trans h3
      exact ⟨h4, h5, v, _, h6, h2⟩
    · exact h1.elim
  · exact fun ⟨h4, h5, v, g, h6, h⟩ => Or.inl ⟨_, _, _, _, Or.inr (Or.inr (Or.inr (Or.inr (Or.inr ⟨⟨m, E, v, hf, h4, h5, h6, rfl⟩, rfl, rfl⟩)))), h⟩
theorem xr_ireturn {x : Int32} (d : decode cc pc = .ok (.ireturn, 1)) : x_WP B (some .int) cx cc K pc ls [.int x] σ ↔ K (some (.int x)) σ := by
  refine xr_of d rfl ⟨?_, ?_⟩
  · rintro (⟨a1, b1, c1, e1, h1, h2⟩ | ⟨v1, h1, h2⟩)
    · simp [x_i, x_pure, x_load, x_store, x_jump, x_mem, x_call] at h1
    · obtain ⟨y, h3, -, rfl⟩ := h1; cases h3; exact h2
  · exact fun h => Or.inr ⟨_, ⟨x, rfl, Or.inl rfl, rfl⟩, h⟩
theorem xr_zreturn {x : Int32} (d : decode cc pc = .ok (.ireturn, 1)) : x_WP B (some .boolean) cx cc K pc ls [.int x] σ ↔ ((x = 0 ∨ x = 1) ∧ K (some (.int x)) σ) := by
  refine xr_of d rfl ⟨?_, ?_⟩
  · rintro (⟨a1, b1, c1, e1, h1, h2⟩ | ⟨v1, h1, h2⟩)
    · simp [x_i, x_pure, x_load, x_store, x_jump, x_mem, x_call] at h1
    · obtain ⟨y, h3, h4 | ⟨-, h4⟩, rfl⟩ := h1 <;> cases h3 <;> first | exact ⟨h4, h2⟩ | cases h4
  · exact fun h => Or.inr ⟨_, ⟨x, rfl, Or.inr ⟨rfl, h.1⟩, rfl⟩, h.2⟩
theorem xr_lreturn {x : Int64} (d : decode cc pc = .ok (.lreturn, 1)) : x_WP B (some .long) cx cc K pc ls [.long x] σ ↔ K (some (.long x)) σ := by
  refine xr_of d rfl ⟨?_, ?_⟩
  · rintro (⟨a1, b1, c1, e1, h1, h2⟩ | ⟨v1, h1, h2⟩)
    · simp [x_i, x_pure, x_load, x_store, x_jump, x_mem, x_call] at h1
    · obtain ⟨y, h3, -, rfl⟩ := h1; cases h3; exact h2
  · exact fun h => Or.inr ⟨_, ⟨x, rfl, rfl, rfl⟩, h⟩
theorem xr_areturn {x : Value} {nm : String} (d : decode cc pc = .ok (.areturn, 1)) : x_WP B (some (.object nm)) cx cc K pc ls [x] σ ↔ (x_rfv x ∧ K (some x) σ) := by
  refine xr_of d rfl ⟨?_, ?_⟩
  · rintro (⟨a1, b1, c1, e1, h1, h2⟩ | ⟨v1, h1, h2⟩)
    · simp [x_i, x_pure, x_load, x_store, x_jump, x_mem, x_call] at h1
    · obtain ⟨y, h3, h4, -, rfl⟩ := h1; cases h3; exact ⟨h4, h2⟩
  · exact fun h => Or.inr ⟨_, ⟨x, rfl, h.1, ⟨nm, rfl⟩, rfl⟩, h.2⟩
theorem xr_return  (d : decode cc pc = .ok (.return_, 1)) : x_WP B none cx cc K pc ls [] σ ↔ K none σ := by
  refine xr_of d rfl ⟨?_, ?_⟩
  · rintro (⟨a1, b1, c1, e1, h1, h2⟩ | ⟨v1, h1, h2⟩)
    · simp [x_i, x_pure, x_load, x_store, x_jump, x_mem, x_call] at h1
    · obtain ⟨h3, -, rfl⟩ := h1; exact h2
  · exact fun h => Or.inr ⟨_, ⟨rfl, rfl, rfl⟩, h⟩
theorem xr_tab_out {dd lo hi : Int} {os : Array Int} {a : Int32} {tgt : Nat} (d : decode cc pc = .ok (.tableswitch dd lo hi os, n)) (ht : (pc : Int) + dd = (tgt : Int)) (hc : a.toInt < lo ∨ hi < a.toInt) : x_WP B rt cx cc K pc ls (.int a :: r) σ ↔ x_WP B rt cx cc K tgt ls r σ := by
  refine xr_of d trivial ⟨?_, ?_⟩
  · rintro (⟨a1, b1, c1, e1, h1, h2⟩ | ⟨v1, h1, h2⟩)
    · simp only [x_i, x_pure, x_load, x_store, x_jump, x_mem, x_call, false_and, or_false, false_or] at h1
      obtain ⟨⟨x, h3, h4⟩, rfl, rfl⟩ := h1
      cases h3
      rcases h4 with ⟨-, h6⟩ | ⟨h5, h6, -⟩
      · cases Int.ofNat.inj (ht.symm.trans h6)
        exact h2
      · exact (hc.elim h5 h6).elim
    · exact h1.elim
  · exact fun h => Or.inl ⟨_, _, _, _, Or.inr (Or.inr (Or.inr (Or.inl ⟨⟨_, rfl, Or.inl ⟨hc, ht⟩⟩, rfl, rfl⟩))), h⟩
theorem xr_tab_in {dd lo hi off : Int} {os : Array Int} {a : Int32} {tgt : Nat} (d : decode cc pc = .ok (.tableswitch dd lo hi os, n)) (h0 : ¬ a.toInt < lo) (h1 : ¬ hi < a.toInt) (ho : os[(a.toInt - lo).toNat]? = some off) (ht : (pc : Int) + off = (tgt : Int)) : x_WP B rt cx cc K pc ls (.int a :: r) σ ↔ x_WP B rt cx cc K tgt ls r σ := by
  refine xr_of d trivial ⟨?_, ?_⟩
  · rintro (⟨a1, b1, c1, e1, h3, h2⟩ | ⟨v1, h3, h2⟩)
    · simp only [x_i, x_pure, x_load, x_store, x_jump, x_mem, x_call, false_and, or_false, false_or] at h3
      obtain ⟨⟨x, h3, h4⟩, rfl, rfl⟩ := h3
      cases h3
      rcases h4 with ⟨h5, -⟩ | ⟨-, -, o2, h5, h6⟩
      · exact (h5.elim h0 h1).elim
      · cases ho.symm.trans h5
        cases Int.ofNat.inj (ht.symm.trans h6)
        exact h2
    · exact h3.elim
  · exact fun h => Or.inl ⟨_, _, _, _, Or.inr (Or.inr (Or.inr (Or.inl ⟨⟨_, rfl, Or.inr ⟨h0, h1, off, ho, ht⟩⟩, rfl, rfl⟩))), h⟩
end XRU
