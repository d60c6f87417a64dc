/-! THE ABSTRACT MACHINE: cells by address (a number for its kind, its contents), the heap's size, the slots made; frames of lists -/
abbrev xE : Type := Nat × List Value
abbrev xM : Type := Nat → Option xE
abbrev xW : Type := xM × Nat × Nat
abbrev xK : Type := Option Value → xW → Prop
/-- what a callee does: arguments, world, answer, world behind it -/
abbrev xR : Type := List Value → xW → Option Value → xW → Prop
/-- a constant pool: fields, numbers, objects to be made, arrays to be made, statics, calls -/
abbrev xC : Type := (Nat → Option (Nat × Nat × FieldType × Bool)) × (Nat → Option Value) × (Nat → Option (Nat × List Value)) × (Nat → Option Nat) × (Nat → Option Value) × (Nat → Option (Nat × Nat × xR))
def x_up (w : xM) (a : Nat) (e : xE) : xM := fun j => if j = a then some e else w j
theorem x_up_self (w : xM) (a : Nat) (e : xE) : x_up w a e a = some e := by simp [x_up]
theorem x_up_ne (w : xM) {a b : Nat} (e : xE) (h : b ≠ a) : x_up w a e b = w b := by simp [x_up, h]
/-- a place of an array -/
def x_ix (j : Int32) (L : List Value) : Option Value := if j.toInt < 0 then none else L[j.toInt.toNat]?
def x_rfv (v : Value) : Prop := v = .null ∨ ∃ a, v = .ref a
theorem x_rfv_ref (a : Nat) : x_rfv (.ref a) := Or.inr ⟨a, rfl⟩
theorem x_rfv_null : x_rfv .null := Or.inl rfl
/-- what a field of a type may hold -/
def x_fit (ty : FieldType) (v : Value) : Prop := match ty with
  | .int => ∃ x, v = .int x
  | .long => ∃ x, v = .long x
  | .boolean => v = .int 0 ∨ v = .int 1
  | .object _ => x_rfv v
  | .array _ => x_rfv v
  | _ => False
theorem x_fit_ok {ty : FieldType} {v : Value} (h : x_fit ty v) : narrow ty v = v ∧ fits ty v = true := by
  cases ty <;> simp only [x_fit, x_rfv] at h
  case int => obtain ⟨x, rfl⟩ := h; exact ⟨rfl, rfl⟩
  case long => obtain ⟨x, rfl⟩ := h; exact ⟨rfl, rfl⟩
  case boolean => rcases h with rfl | rfl <;> exact ⟨by decide, by decide⟩
  case object => rcases h with rfl | ⟨x, rfl⟩ <;> exact ⟨rfl, rfl⟩
  case array => rcases h with rfl | ⟨x, rfl⟩ <;> exact ⟨rfl, rfl⟩
def x_nl (L : List Value) (k : Nat) : Prop := ∀ j v, k = j + 1 → L[j]? = some v → v.category = 1
def x_to (pc' : Nat) (ls' st' : List Value) (σ' : xW) (p : Nat) (l s : List Value) (g : xW) : Prop := pc' = p ∧ ls' = l ∧ st' = s ∧ σ' = g
/-- the kinds of arrays: 100 int, 101 long, 102 boolean, 103 Item, 104 InsertClass, 105 Page; 106 the script; 107 a constant of Kind -/
def x_ldk (t : Nat) (i : Instr) : Prop := match i with
  | .iaload => t = 100 ∨ t = 106
  | .laload => t = 101
  | .baload => t = 102
  | .aaload => t = 103 ∨ t = 104 ∨ t = 105
  | _ => False
def x_nak (a : ArrayType) : Option (Nat × Value) := match a with
  | .int => some (100, .int 0)
  | .long => some (101, .long 0)
  | .boolean => some (102, .int 0)
  | _ => none
def x_cnd (c : ClassFile.Cond) (a b : Int32) : Prop := match c with
  | .eq => a = b
  | .ne => ¬ a = b
  | .lt => a.toInt < b.toInt
  | .ge => ¬ a.toInt < b.toInt
  | .gt => b.toInt < a.toInt
  | .le => ¬ b.toInt < a.toInt
/-- what is pushed by an instruction that reads the stack's top alone -/
def x_pure (cx : xC) (i : Instr) (st st' : List Value) : Prop := match i with
  | .iconst k => st' = .int (Int32.ofInt k) :: st
  | .bipush k => st' = .int (Int8.ofInt k).toInt32 :: st
  | .sipush k => st' = .int (Int16.ofInt k).toInt32 :: st
  | .lconst k => st' = .long (Int64.ofNat k.val) :: st
  | .aconst_null => st' = .null :: st
  | .ldc k => ∃ v, cx.2.1 k = some (.int v) ∧ st' = .int v :: st
  | .ldc2_w k => ∃ v, cx.2.1 k = some (.long v) ∧ st' = .long v :: st
  | .getstatic k => ∃ v, cx.2.2.2.2.1 k = some v ∧ k < 1000000 ∧ st' = v :: st
  | .iadd => ∃ a b r, st = .int b :: .int a :: r ∧ st' = .int (a + b) :: r
  | .isub => ∃ a b r, st = .int b :: .int a :: r ∧ st' = .int (a - b) :: r
  | .imul => ∃ a b r, st = .int b :: .int a :: r ∧ st' = .int (a * b) :: r
  | .iand => ∃ a b r, st = .int b :: .int a :: r ∧ st' = .int (a &&& b) :: r
  | .irem => ∃ a b r, st = .int b :: .int a :: r ∧ ¬ b = 0 ∧ st' = .int (a - a / b * b) :: r
  | .ladd => ∃ a b r, st = .long b :: .long a :: r ∧ st' = .long (a + b) :: r
  | .lsub => ∃ a b r, st = .long b :: .long a :: r ∧ st' = .long (a - b) :: r
  | .lmul => ∃ a b r, st = .long b :: .long a :: r ∧ st' = .long (a * b) :: r
  | .ldiv => ∃ a b r, st = .long b :: .long a :: r ∧ ¬ b = 0 ∧ st' = .long (a / b) :: r
  | .lneg => ∃ a r, st = .long a :: r ∧ st' = .long (-a) :: r
  | .lcmp => ∃ a b r, st = .long b :: .long a :: r ∧ st' = .int (lg_cmp a b) :: r
  | .i2l => ∃ a r, st = .int a :: r ∧ st' = .long a.toInt64 :: r
  | .l2i => ∃ a r, st = .long a :: r ∧ st' = .int a.toInt32 :: r
  | .dup => ∃ v r, st = v :: r ∧ v.category = 1 ∧ st' = v :: v :: r
  | .pop => ∃ v r, st = v :: r ∧ v.category = 1 ∧ st' = r
  | .dup2 => (∃ v r, st = v :: r ∧ v.category = 2 ∧ st' = v :: v :: r) ∨ ∃ v u r, st = v :: u :: r ∧ v.category = 1 ∧ u.category = 1 ∧ st' = v :: u :: v :: u :: r
  | _ => False
def x_load (i : Instr) (ls st st' : List Value) : Prop := match i with
  | .iload k => ∃ v, ls[k]? = some (.int v) ∧ st' = .int v :: st
  | .iload_n k => ∃ v, ls[k.val]? = some (.int v) ∧ st' = .int v :: st
  | .lload k => ∃ v, ls[k]? = some (.long v) ∧ st' = .long v :: st
  | .lload_n k => ∃ v, ls[k.val]? = some (.long v) ∧ st' = .long v :: st
  | .aload k => ∃ v, ls[k]? = some v ∧ x_rfv v ∧ st' = v :: st
  | .aload_n k => ∃ v, ls[k.val]? = some v ∧ x_rfv v ∧ st' = v :: st
  | _ => False
def x_store (i : Instr) (ls st ls' st' : List Value) : Prop := match i with
  | .istore k => ∃ v, st = .int v :: st' ∧ k < ls.length ∧ x_nl ls k ∧ ls' = ls.set k (.int v)
  | .istore_n k => ∃ v, st = .int v :: st' ∧ k.val < ls.length ∧ x_nl ls k.val ∧ ls' = ls.set k.val (.int v)
  | .astore k => ∃ v, st = v :: st' ∧ x_rfv v ∧ k < ls.length ∧ x_nl ls k ∧ ls' = ls.set k v
  | .astore_n k => ∃ v, st = v :: st' ∧ x_rfv v ∧ k.val < ls.length ∧ x_nl ls k.val ∧ ls' = ls.set k.val v
  | .lstore k => ∃ v, st = .long v :: st' ∧ k + 1 < ls.length ∧ x_nl ls k ∧ ls' = (ls.set k (.long v)).set (k + 1) (.retAddr 0)
  | .lstore_n k => ∃ v, st = .long v :: st' ∧ k.val + 1 < ls.length ∧ x_nl ls k.val ∧ ls' = (ls.set k.val (.long v)).set (k.val + 1) (.retAddr 0)
  | .iinc k d => ∃ v, ls[k]? = some (.int v) ∧ x_nl ls k ∧ st' = st ∧ ls' = ls.set k (.int (v + Int32.ofInt d))
  | _ => False
/-- where an instruction goes that only chooses its next place -/
def x_jump (i : Instr) (n pc : Nat) (st : List Value) (pc' : Nat) (st' : List Value) : Prop := match i with
  | .goto o => (pc : Int) + o = (pc' : Int) ∧ st' = st
  | .ifCond c o => ∃ a, ∃ tg : Nat, st = .int a :: st' ∧ (pc : Int) + o = (tg : Int) ∧ ((x_cnd c a 0 ∧ pc' = tg) ∨ (¬ x_cnd c a 0 ∧ pc' = pc + n))
  | .if_icmp c o => ∃ a b, ∃ tg : Nat, st = .int b :: .int a :: st' ∧ (pc : Int) + o = (tg : Int) ∧ ((x_cnd c a b ∧ pc' = tg) ∨ (¬ x_cnd c a b ∧ pc' = pc + n))
  | .if_acmp .eq o => ∃ a b, ∃ tg : Nat, st = b :: a :: st' ∧ x_rfv a ∧ x_rfv b ∧ (pc : Int) + o = (tg : Int) ∧ ((a = b ∧ pc' = tg) ∨ (¬ a = b ∧ pc' = pc + n))
  | .if_acmp .ne o => ∃ a b, ∃ tg : Nat, st = b :: a :: st' ∧ x_rfv a ∧ x_rfv b ∧ (pc : Int) + o = (tg : Int) ∧ ((¬ a = b ∧ pc' = tg) ∨ (a = b ∧ pc' = pc + n))
  | .ifnull o => ∃ a, ∃ tg : Nat, st = a :: st' ∧ x_rfv a ∧ (pc : Int) + o = (tg : Int) ∧ ((a = .null ∧ pc' = tg) ∨ (¬ a = .null ∧ pc' = pc + n))
  | .ifnonnull o => ∃ a, ∃ tg : Nat, st = a :: st' ∧ x_rfv a ∧ (pc : Int) + o = (tg : Int) ∧ ((¬ a = .null ∧ pc' = tg) ∨ (a = .null ∧ pc' = pc + n))
  | .tableswitch d lo hi os => ∃ a : Int32, st = .int a :: st' ∧ (((a.toInt < lo ∨ hi < a.toInt) ∧ (pc : Int) + d = (pc' : Int)) ∨ (¬ a.toInt < lo ∧ ¬ hi < a.toInt ∧ ∃ o, os[(a.toInt - lo).toNat]? = some o ∧ (pc : Int) + o = (pc' : Int)))
  | _ => False
/-- an object's fields; those of a constant of Kind are known by its number (its place among the statics from 1000000 on) -/
def x_gf (cx : xC) (w : xM) (a t : Nat) (fs : List Value) : Prop := (t ≠ 107 ∧ w a = some (t, fs)) ∨ (t = 107 ∧ ∃ i : Nat, i < 6 ∧ cx.2.2.2.2.1 (1000000 + i) = some (.ref a) ∧ fs = [.int (if 1 ≤ i ∧ i ≤ 3 then 1 else 0)])
/-- what reads or writes cells -/
def x_mem (B : Nat) (cx : xC) (i : Instr) (st : List Value) (σ : xW) (st' : List Value) (σ' : xW) : Prop := match i with
  | .getfield k => ∃ a r t j ty wr fs v, st = .ref a :: r ∧ cx.1 k = some (t, j, ty, wr) ∧ x_gf cx σ.1 a t fs ∧ fs[j]? = some v ∧ st' = v :: r ∧ σ' = σ
  | .putfield k => ∃ a v t j ty fs, st = v :: .ref a :: st' ∧ cx.1 k = some (t, j, ty, true) ∧ σ.1 a = some (t, fs) ∧ j < fs.length ∧ t < 100 ∧ B ≤ a ∧ x_fit ty v ∧ σ' = (x_up σ.1 a (t, fs.set j v), σ.2)
  | .new k => ∃ t fs, cx.2.2.1 k = some (t, fs) ∧ st' = .ref σ.2.1 :: st ∧ σ' = (x_up σ.1 σ.2.1 (t, fs), σ.2.1 + 1, σ.2.2 + fs.length)
  | .newarray ty => ∃ t d n r, x_nak ty = some (t, d) ∧ st = .int n :: r ∧ ¬ n.toInt < 0 ∧ n.toInt ≤ 60000000 ∧ st' = .ref σ.2.1 :: r ∧ σ' = (x_up σ.1 σ.2.1 (t, List.replicate n.toInt.toNat d), σ.2.1 + 1, σ.2.2 + n.toInt.toNat)
  | .anewarray k => ∃ t n r, cx.2.2.2.1 k = some t ∧ st = .int n :: r ∧ ¬ n.toInt < 0 ∧ n.toInt ≤ 60000000 ∧ st' = .ref σ.2.1 :: r ∧ σ' = (x_up σ.1 σ.2.1 (t, List.replicate n.toInt.toNat .null), σ.2.1 + 1, σ.2.2 + n.toInt.toNat)
  | .arraylength => ∃ a r t L, st = .ref a :: r ∧ σ.1 a = some (t, L) ∧ 100 ≤ t ∧ t ≤ 106 ∧ st' = .int (Int32.ofNat L.length) :: r ∧ σ' = σ
  | .iaload => ∃ j a r t L v, st = .int j :: .ref a :: r ∧ σ.1 a = some (t, L) ∧ (t = 100 ∨ t = 106) ∧ x_ix j L = some v ∧ st' = v :: r ∧ σ' = σ
  | .laload => ∃ j a r L v, st = .int j :: .ref a :: r ∧ σ.1 a = some (101, L) ∧ x_ix j L = some v ∧ st' = v :: r ∧ σ' = σ
  | .baload => ∃ j a r L v, st = .int j :: .ref a :: r ∧ σ.1 a = some (102, L) ∧ x_ix j L = some v ∧ st' = v :: r ∧ σ' = σ
  | .aaload => ∃ j a r t L v, st = .int j :: .ref a :: r ∧ σ.1 a = some (t, L) ∧ (t = 103 ∨ t = 104 ∨ t = 105) ∧ x_ix j L = some v ∧ st' = v :: r ∧ σ' = σ
  | .iastore => ∃ x j a L, st = .int x :: .int j :: .ref a :: st' ∧ σ.1 a = some (100, L) ∧ (x_ix j L).isSome ∧ B ≤ a ∧ σ' = (x_up σ.1 a (100, L.set j.toInt.toNat (.int x)), σ.2)
  | .lastore => ∃ x j a L, st = .long x :: .int j :: .ref a :: st' ∧ σ.1 a = some (101, L) ∧ (x_ix j L).isSome ∧ B ≤ a ∧ σ' = (x_up σ.1 a (101, L.set j.toInt.toNat (.long x)), σ.2)
  | .bastore => ∃ x j a L, st = .int x :: .int j :: .ref a :: st' ∧ σ.1 a = some (102, L) ∧ (x = 0 ∨ x = 1) ∧ (x_ix j L).isSome ∧ B ≤ a ∧ σ' = (x_up σ.1 a (102, L.set j.toInt.toNat (.int x)), σ.2)
  | .aastore => ∃ x j a t L t2 fs, st = .ref x :: .int j :: .ref a :: st' ∧ σ.1 a = some (t, L) ∧ σ.1 x = some (t2, fs) ∧ ((t = 103 ∧ t2 = 3) ∨ (t = 104 ∧ t2 = 2) ∨ (t = 105 ∧ t2 = 6)) ∧ (x_ix j L).isSome ∧ B ≤ a ∧ σ' = (x_up σ.1 a (t, L.set j.toInt.toNat (.ref x)), σ.2)
  | _ => False
def x_op (kd k : Nat) : Instr := match kd with
  | 0 => .invokevirtual k
  | 1 => .invokestatic k
  | _ => .invokespecial k
/-- calls: n values are taken from the stack (an object first, if there is one) -/
def x_call (cx : xC) (i : Instr) (st : List Value) (σ : xW) (st' : List Value) (σ' : xW) : Prop := match i with
  | .invokevirtual k => ∃ n E v, cx.2.2.2.2.2 k = some (0, n, E) ∧ n ≤ st.length ∧ (((st.drop n).map fun v => v.category).sum ≤ 8) ∧ E (st.take n).reverse σ v σ' ∧ st' = v.toList ++ st.drop n
  | .invokestatic k => ∃ n E v, cx.2.2.2.2.2 k = some (1, n, E) ∧ n ≤ st.length ∧ (((st.drop n).map fun v => v.category).sum ≤ 8) ∧ E (st.take n).reverse σ v σ' ∧ st' = v.toList ++ st.drop n
  | .invokespecial k => ∃ n E v, cx.2.2.2.2.2 k = some (2, n, E) ∧ n ≤ st.length ∧ (((st.drop n).map fun v => v.category).sum ≤ 8) ∧ E (st.take n).reverse σ v σ' ∧ st' = v.toList ++ st.drop n
  | _ => False
/-- one step -/
def x_i (B : Nat) (cx : xC) (i : Instr) (n pc : Nat) (ls st : List Value) (σ : xW) (pc' : Nat) (ls' st' : List Value) (σ' : xW) : Prop :=
  (x_pure cx i st st' ∧ pc' = pc + n ∧ ls' = ls ∧ σ' = σ) ∨ (x_load i ls st st' ∧ pc' = pc + n ∧ ls' = ls ∧ σ' = σ) ∨ (x_store i ls st ls' st' ∧ pc' = pc + n ∧ σ' = σ) ∨
  (x_jump i n pc st pc' st' ∧ ls' = ls ∧ σ' = σ) ∨ (x_mem B cx i st σ st' σ' ∧ pc' = pc + n ∧ ls' = ls) ∨ (x_call cx i st σ st' σ' ∧ pc' = pc + n ∧ ls' = ls)
/-- the end of a method -/
def x_fi (rt : Option FieldType) (i : Instr) (st : List Value) (v : Option Value) : Prop := match i with
  | .ireturn => ∃ x, st = [.int x] ∧ (rt = some .int ∨ (rt = some .boolean ∧ (x = 0 ∨ x = 1))) ∧ v = some (.int x)
  | .lreturn => ∃ x, st = [.long x] ∧ rt = some .long ∧ v = some (.long x)
  | .areturn => ∃ x, st = [x] ∧ x_rfv x ∧ (∃ n, rt = some (.object n)) ∧ v = some x
  | .return_ => st = [] ∧ rt = none ∧ v = none
  | _ => False
/-- how long an instruction is -/
def x_len (i : Instr) (n : Nat) : Prop := match i with
  | .iconst _ => n = 1
  | .lconst _ => n = 1
  | .aconst_null => n = 1
  | .iadd => n = 1
  | .isub => n = 1
  | .imul => n = 1
  | .iand => n = 1
  | .irem => n = 1
  | .ladd => n = 1
  | .lsub => n = 1
  | .lmul => n = 1
  | .ldiv => n = 1
  | .lneg => n = 1
  | .lcmp => n = 1
  | .i2l => n = 1
  | .l2i => n = 1
  | .dup => n = 1
  | .pop => n = 1
  | .dup2 => n = 1
  | .iload_n _ => n = 1
  | .lload_n _ => n = 1
  | .aload_n _ => n = 1
  | .istore_n _ => n = 1
  | .lstore_n _ => n = 1
  | .astore_n _ => n = 1
  | .arraylength => n = 1
  | .iaload => n = 1
  | .laload => n = 1
  | .baload => n = 1
  | .aaload => n = 1
  | .iastore => n = 1
  | .lastore => n = 1
  | .bastore => n = 1
  | .aastore => n = 1
  | .ireturn => n = 1
  | .lreturn => n = 1
  | .areturn => n = 1
  | .return_ => n = 1
  | .bipush _ => n = 2
  | .iload _ => n = 2
  | .lload _ => n = 2
  | .aload _ => n = 2
  | .istore _ => n = 2
  | .lstore _ => n = 2
  | .astore _ => n = 2
  | .ldc _ => n = 2
  | .newarray _ => n = 2
  | .sipush _ => n = 3
  | .ldc2_w _ => n = 3
  | .getstatic _ => n = 3
  | .getfield _ => n = 3
  | .putfield _ => n = 3
  | .new _ => n = 3
  | .anewarray _ => n = 3
  | .invokevirtual _ => n = 3
  | .invokestatic _ => n = 3
  | .invokespecial _ => n = 3
  | .goto _ => n = 3
  | .ifCond _ _ => n = 3
  | .if_icmp _ _ => n = 3
  | .if_acmp _ _ => n = 3
  | .ifnull _ => n = 3
  | .ifnonnull _ => n = 3
  | .iinc _ _ => n = 3
  | _ => True
def x_n (B : Nat) (cx : xC) (cc : ByteArray) (pc : Nat) (ls st : List Value) (σ : xW) (pc' : Nat) (ls' st' : List Value) (σ' : xW) : Prop :=
  ∃ i n, decode cc pc = .ok (i, n) ∧ x_len i n ∧ x_i B cx i n pc ls st σ pc' ls' st' σ'
def x_f (rt : Option FieldType) (cc : ByteArray) (pc : Nat) (st : List Value) (v : Option Value) : Prop := ∃ i n, decode cc pc = .ok (i, n) ∧ x_len i n ∧ x_fi rt i st v
abbrev xQ : Type := Nat → List Value → List Value → xW → Prop
def x_step (B : Nat) (rt : Option FieldType) (cx : xC) (cc : ByteArray) (K : xK) (R : xQ) (pc : Nat) (ls st : List Value) (σ : xW) : Prop :=
  (∃ pc' ls' st' σ', x_n B cx cc pc ls st σ pc' ls' st' σ' ∧ R pc' ls' st' σ') ∨ ∃ v, x_f rt cc pc st v ∧ K v σ
/-- from here the method ends, with K -/
def x_WP (B : Nat) (rt : Option FieldType) (cx : xC) (cc : ByteArray) (K : xK) (pc : Nat) (ls st : List Value) (σ : xW) : Prop :=
  ∀ R : xQ, (∀ pc ls st σ, x_step B rt cx cc K R pc ls st σ → R pc ls st σ) → R pc ls st σ
section XWP
variable {B : Nat} {rt : Option FieldType} {cx : xC} {cc : ByteArray} {K K' : xK} {pc : Nat} {ls st : List Value} {σ : xW}
theorem x_step_mono {R R' : xQ} (h : ∀ pc ls st σ, R pc ls st σ → R' pc ls st σ) (hs : x_step B rt cx cc K R pc ls st σ) : x_step B rt cx cc K R' pc ls st σ := by
  rcases hs with ⟨a, b, c, d, h1, h2⟩ | hs
  · exact Or.inl ⟨a, b, c, d, h1, h _ _ _ _ h2⟩
  · exact Or.inr hs
theorem x_WP_in (hs : x_step B rt cx cc K (x_WP B rt cx cc K) pc ls st σ) : x_WP B rt cx cc K pc ls st σ := by
  intro R hR
  exact hR _ _ _ _ (x_step_mono (fun _ _ _ _ h => h R hR) hs)
theorem x_WP_out (h : x_WP B rt cx cc K pc ls st σ) : x_step B rt cx cc K (x_WP B rt cx cc K) pc ls st σ :=
  h (fun pc ls st σ => x_step B rt cx cc K (x_WP B rt cx cc K) pc ls st σ) (fun _ _ _ _ hs => x_step_mono (fun _ _ _ _ h => x_WP_in h) hs)
theorem x_WP_iff : x_WP B rt cx cc K pc ls st σ ↔ x_step B rt cx cc K (x_WP B rt cx cc K) pc ls st σ := ⟨x_WP_out, x_WP_in⟩
theorem x_WP_ind {R : xQ} (h : x_WP B rt cx cc K pc ls st σ) (hR : ∀ pc ls st σ, x_step B rt cx cc K R pc ls st σ → R pc ls st σ) : R pc ls st σ := h R hR
theorem x_WP_mono (hK : ∀ v σ, K v σ → K' v σ) (h : x_WP B rt cx cc K pc ls st σ) : x_WP B rt cx cc K' pc ls st σ := by
  refine x_WP_ind h fun pc ls st σ hs => x_WP_in ?_
  rcases hs with hs | ⟨v, h1, h2⟩
  · exact Or.inl hs
  · exact Or.inr ⟨v, h1, hK _ _ h2⟩
/-- the end that comes -/
theorem x_WP_det (h : x_WP B rt cx cc K pc ls st σ) : ∃ r σ', K r σ' ∧ x_WP B rt cx cc (fun v g => v = r ∧ g = σ') pc ls st σ := by
  refine x_WP_ind (R := fun pc ls st σ => ∃ r σ', K r σ' ∧ x_WP B rt cx cc (fun v g => v = r ∧ g = σ') pc ls st σ) h fun pc ls st σ hs => ?_
  rcases hs with ⟨a, b, c, d, h1, r, σ', h2, h3⟩ | ⟨v, h1, h2⟩
  · exact ⟨r, σ', h2, x_WP_in (Or.inl ⟨a, b, c, d, h1, h3⟩)⟩
  · exact ⟨v, σ, h2, x_WP_in (Or.inr ⟨v, h1, rfl, rfl⟩)⟩
end XWP
def x_sl (vs : List Value) : List Value := vs.flatMap fun v => if v.category = 2 then [v, .retAddr 0] else [v]
def x_in (nL : Nat) (vs : List Value) : List Value := x_sl vs ++ List.replicate (nL - (x_sl vs).length) (.retAddr 0)
/-- a method, as what it does -/
def x_ev (B : Nat) (rt : Option FieldType) (cx : xC) (cc : ByteArray) (nL : Nat) : xR := fun vs σ r σ' => (x_sl vs).length ≤ nL ∧ x_WP B rt cx cc (fun v g => v = r ∧ g = σ') 0 (x_in nL vs) [] σ
/-- a call, with what has to hold behind it -/
abbrev x_cl (E : xR) (vs : List Value) (σ : xW) (K : xK) : Prop := ∃ v σ', E vs σ v σ' ∧ K v σ'
theorem x_ev_of {B : Nat} {rt : Option FieldType} {cx : xC} {cc : ByteArray} {nL : Nat} {vs : List Value} {σ : xW} {K : xK} (hn : (x_sl vs).length ≤ nL) (h : x_WP B rt cx cc K 0 (x_in nL vs) [] σ) : x_cl (x_ev B rt cx cc nL) vs σ K := by
  obtain ⟨r, σ', h1, h2⟩ := x_WP_det h
  exact ⟨r, σ', ⟨hn, h2⟩, h1⟩
