/-! THE ABSTRACT MACHINE AND THE MACHINE: how a world of cells stands in a heap -/
def xT : List Cond := lw_tbl.filter goodWord
theorem xT_good : ∀ w ∈ xT, goodWord w = true := fun w h => (List.mem_filter.mp h).2
theorem xT_tbl : ∀ w ∈ xT, w ∈ lw_tbl := fun w h => (List.mem_filter.mp h).1
theorem xT_in {w : Cond} (h : w ∈ lw_tbl) (hg : goodWord w = true) : w ∈ xT := List.mem_filter.mpr ⟨h, hg⟩
def x_ty (t : Nat) : FieldType := match t with
  | 100 => .int
  | 101 => .long
  | 102 => .boolean
  | 103 => .object "PageBuilder$Item"
  | 104 => .object "PageBuilder$InsertClass"
  | 105 => .object "PageBuilder$Page"
  | _ => .int
def x_arr (cA : ClassId) (L : List Value) : Cell := { cls := cA, slots := L.toArray, vm := .none }
theorem x_arr_V (cA : ClassId) (L : List Value) : x_arr cA L = arrV cA L.length (fun j => L.getD j .null) := by
  have h : L.toArray = Array.ofFn (n := L.length) fun j => L.getD j.val .null := by
    apply Array.ext
    · simp
    · intro j h1 h2
      simp only [List.size_toArray] at h1
      simp [List.getD, h1]
  show ({ cls := cA, slots := L.toArray, vm := .none } : Cell) = _
  rw [h]
  rfl
theorem x_arr_set (cA : ClassId) (L : List Value) (k : Nat) (v : Value) : (x_arr cA L).setSlot k v = x_arr cA (L.set k v) := by
  show ({ cls := cA, slots := L.toArray.setIfInBounds k v, vm := .none } : Cell) = _
  rw [List.setIfInBounds_toArray]
  rfl
/-- a cell of the world stands in the heap -/
def x_at (D : va_G) (cA : Nat → Nat) (B : Nat) (U : State) (a : Nat) (e : xE) (H : Heap) : Prop :=
  (e.1 < 100 ∧ va_at D vwCl (a, .inr (e.1, e.2)) H) ∨
  (100 ≤ e.1 ∧ e.1 < 106 ∧ H[a]? = some (x_arr (cA e.1) e.2)) ∨
  (e.1 = 106 ∧ ∃ cell : Cell, H[a]? = some cell ∧ U.isArrayOf cell .int ∧ cell.vm ≠ .unknown ∧ cell.slots = e.2.toArray) ∨
  (e.1 = 107 ∧ ∃ v, e.2 = [v] ∧ va_OF "PageBuilder$Kind" "goesAtTop" "Z" v a (fun q => B ≤ q) U H)
theorem x_at_kept {D : va_G} {cA : Nat → Nat} {B : Nat} {U : State} {a : Nat} {e : xE} {H H1 : Heap} (h : x_at D cA B U a e H) (hq : H1[a]? = H[a]?) : x_at D cA B U a e H1 := by
  rcases h with ⟨h1, h2⟩ | ⟨h1, h2, h3⟩ | ⟨h1, cell, h2, h3⟩ | ⟨h1, v, h2, cf, k, i, f, cell, g1, g2, g3, g4⟩
  · exact Or.inl ⟨h1, h2.kept hq⟩
  · exact Or.inr (Or.inl ⟨h1, h2, hq.trans h3⟩)
  · exact Or.inr (Or.inr (Or.inl ⟨h1, cell, hq.trans h2, h3⟩))
  · exact Or.inr (Or.inr (Or.inr ⟨h1, v, h2, cf, k, i, f, cell, g1, g2, hq.trans g3, g4⟩))
theorem x_at_moved {D : va_G} {cA : Nat → Nat} {B : Nat} {u U : State} {a : Nat} {e : xE} {H : Heap} (hvm : u.vm.Alike U.vm) (h : x_at D cA B u a e H) : x_at D cA B U a e H := by
  rcases h with ⟨h1, h2⟩ | ⟨h1, h2, h3⟩ | ⟨h1, cell, h2, h3, h4⟩ | ⟨h1, v, h2, h3⟩
  · exact Or.inl ⟨h1, h2⟩
  · exact Or.inr (Or.inl ⟨h1, h2, h3⟩)
  · exact Or.inr (Or.inr (Or.inl ⟨h1, cell, h2, State.isArrayOf_alike hvm h3, h4⟩))
  · exact Or.inr (Or.inr (Or.inr ⟨h1, v, h2, h3.moved hvm⟩))
theorem x_at_lt {D : va_G} {cA : Nat → Nat} {B : Nat} {U : State} {a : Nat} {e : xE} {H : Heap} (h : x_at D cA B U a e H) : a < H.size := by
  rcases h with ⟨h1, h2⟩ | ⟨h1, h2, h3⟩ | ⟨h1, cell, h2, h3⟩ | ⟨h1, v, h2, cf, k, i, f, cell, g1, g2, g3, g4⟩
  · exact h2.lt
  · exact (Array.getElem?_eq_some_iff.mp h3).1
  · exact (Array.getElem?_eq_some_iff.mp h2).1
  · exact (Array.getElem?_eq_some_iff.mp g3).1
def x_ok (D : va_G) (cA : Nat → Nat) (B : Nat) (U : State) (σ : xW) (H : Heap) : Prop := (∀ a e, σ.1 a = some e → x_at D cA B U a e H) ∧ H.size = σ.2.1
theorem x_ok_moved {D : va_G} {cA : Nat → Nat} {B : Nat} {u U : State} {σ : xW} {H : Heap} (hvm : u.vm.Alike U.vm) (h : x_ok D cA B u σ H) : x_ok D cA B U σ H := ⟨fun a e he => x_at_moved hvm (h.1 a e he), h.2⟩
theorem x_ok_put {D : va_G} {cA : Nat → Nat} {B : Nat} {U : State} {σ : xW} {H H1 : Heap} {a : Nat} {e : xE} (h : x_ok D cA B U σ H) (he : x_at D cA B U a e H1) (hz : H1.size = H.size) (hq : ∀ q : Nat, q ≠ a → H1[q]? = H[q]?) : x_ok D cA B U (x_up σ.1 a e, σ.2) H1 := by
  refine ⟨fun b f hb => ?_, hz.trans h.2⟩
  by_cases hba : b = a
  · subst hba
    have hb : x_up σ.1 b e b = some f := hb
    rw [x_up_self] at hb
    cases hb
    exact he
  · have hb : x_up σ.1 a e b = some f := hb
    rw [x_up_ne _ _ hba] at hb
    exact x_at_kept (h.1 b f hb) (hq b hba)
theorem x_ok_new {D : va_G} {cA : Nat → Nat} {B n : Nat} {U : State} {σ : xW} {H H1 : Heap} {e : xE} (h : x_ok D cA B U σ H) (he : x_at D cA B U H.size e H1) (hz : H1.size = H.size + 1) (hq : ∀ q : Nat, q < H.size → H1[q]? = H[q]?) : x_ok D cA B U (x_up σ.1 σ.2.1 e, σ.2.1 + 1, n) H1 := by
  refine ⟨fun b f hb => ?_, by rw [hz, h.2]⟩
  have hb : x_up σ.1 σ.2.1 e b = some f := hb
  by_cases hba : b = σ.2.1
  · rw [hba, x_up_self] at hb
    cases hb
    rw [hba, ← h.2]
    exact he
  · rw [x_up_ne _ _ hba] at hb
    have hk := h.1 b f hb
    exact x_at_kept hk (hq b (x_at_lt hk))
def x_nest : List Cond := lw_tbl.filter (fun w => match w with | .methodLinkNest _ _ _ _ => true | _ => false)
/-- what the throw in the class's marked asks of the machine: the words, at an earlier state whose cells all stand as they stood -/
def x_ow : List Cond := Bundle.ownAtoms RX7 171 RJx00060 ["java/lang/IndexOutOfBoundsException", "java/lang/RuntimeException", "java/lang/Exception"]
def x_thr (B : Nat) (U : State) (H : Heap) : Prop := ∃ (s0 : State) (A0 : Array Value) (a : Nat), s0.heap.size ≤ B ∧ s0.WarmedH U.vm ∧ (∀ q : Nat, q < s0.heap.size → H[q]? = s0.heap[q]?) ∧ (∀ w ∈ x_ow, w.before A0 s0 = true) ∧ vk_R RX7 169 "no such page or which" a s0
theorem x_thr_moved {B : Nat} {u U : State} {H : Heap} (hW : u.WarmedH U.vm) (h : x_thr B u H) : x_thr B U H := by
  obtain ⟨s0, A0, a, h1, h2, h3⟩ := h
  exact ⟨s0, A0, a, h1, State.WarmedH.trans h2 hW, h3⟩
theorem x_thr_kept {B : Nat} {U : State} {H H1 : Heap} (h : x_thr B U H) (hq : ∀ a : Nat, a < H.size → ¬ B ≤ a → H1[a]? = H[a]?) : x_thr B U H1 := by
  obtain ⟨s0, A0, a, h1, h2, h3, h4⟩ := h
  refine ⟨s0, A0, a, h1, h2, fun q hl => ?_, h4⟩
  have e := h3 q hl
  rw [← e]
  refine hq q ?_ (by omega)
  rw [Array.getElem?_eq_getElem hl] at e
  exact (Array.getElem?_eq_some_iff.mp e).1
theorem x_thr_narrow {B B' : Nat} {U : State} {H : Heap} (h : x_thr B U H) (hB : B ≤ B') : x_thr B' U H := by
  obtain ⟨s0, A0, a, h1, h2⟩ := h
  exact ⟨s0, A0, a, Nat.le_trans h1 hB, h2⟩
/-- what stays the same all along: the kinds' numbers, the arrays', links between mates, the constants of Kind, the throw's words -/
def x_tk (D : va_G) (cA ad : Nat → Nat) (B : Nat) (U : State) (H : Heap) : Prop :=
  va_K D vwCl [] U ∧ (∀ t, 100 ≤ t → t < 106 → ArrOfT U (cA t) (x_ty t) ∧ va_RA U (cA t) (x_ty t)) ∧ (∀ C ∈ ["PageBuilder$Item", "PageBuilder$InsertClass", "PageBuilder$Page"], va_AO C U) ∧ (∀ w ∈ x_nest, va_Nw w U) ∧
  va_En "PageBuilder$Kind" "LPageBuilder$Kind;" ["BOX", "GLUE", "KERN", "PENALTY", "INSERT", "MARK"] [("PageBuilder$Kind", "goesAtTop", "Z", [0, 1, 1, 1, 0, 0])] ad (fun q => B ≤ q) U H ∧ x_thr B U H
theorem x_tk_moved {D : va_G} {cA ad : Nat → Nat} {B : Nat} {u U : State} {H : Heap} (hW : u.WarmedH U.vm) (h : x_tk D cA ad B u H) : x_tk D cA ad B U H := by
  obtain ⟨h1, h2, h3, h4, h5, h6⟩ := h
  refine ⟨h1.moved hW.alike, fun t a b => ⟨arrOfT_moved hW.alike (h2 t a b).1, (h2 t a b).2.moved hW.alike⟩, fun C hC => (h3 C hC).moved hW.alike, fun w hw => ?_, h5.moved hW.alike, x_thr_moved hW h6⟩
  have hk := h4 w hw
  unfold x_nest at hw
  have hp := (List.mem_filter.mp hw).2
  cases w <;> first | exact va_Nw.warmM hW hk | (simp at hp)
theorem x_tk_kept {D : va_G} {cA ad : Nat → Nat} {B : Nat} {U : State} {H H1 : Heap} (h : x_tk D cA ad B U H) (hq : ∀ a : Nat, a < H.size → ¬ B ≤ a → H1[a]? = H[a]?) : x_tk D cA ad B U H1 := by
  obtain ⟨h1, h2, h3, h4, h5, h6⟩ := h
  exact ⟨h1, h2, h3, h4, h5.kept hq, x_thr_kept h6 hq⟩
theorem x_tk_narrow {D : va_G} {cA ad : Nat → Nat} {B B' : Nat} {U : State} {H : Heap} (h : x_tk D cA ad B U H) (hB : B ≤ B') : x_tk D cA ad B' U H := by
  obtain ⟨h1, h2, h3, h4, h5, h6⟩ := h
  exact ⟨h1, h2, h3, h4, h5.narrow (fun q hq => Nat.le_trans hB hq), x_thr_narrow h6 hB⟩
theorem x_at_narrow {D : va_G} {cA : Nat → Nat} {B B' : Nat} {U : State} {a : Nat} {e : xE} {H : Heap} (h : x_at D cA B U a e H) (hB : B ≤ B') : x_at D cA B' U a e H := by
  rcases h with h1 | h1 | h1 | ⟨h1, v, h2, h3⟩
  · exact Or.inl h1
  · exact Or.inr (Or.inl h1)
  · exact Or.inr (Or.inr (Or.inl h1))
  · exact Or.inr (Or.inr (Or.inr ⟨h1, v, h2, h3.narrow (fun q hq => Nat.le_trans hB hq)⟩))
theorem x_ok_narrow {D : va_G} {cA : Nat → Nat} {B B' : Nat} {U : State} {σ : xW} {H : Heap} (h : x_ok D cA B U σ H) (hB : B ≤ B') : x_ok D cA B' U σ H := ⟨fun a e he => x_at_narrow (h.1 a e he) hB, h.2⟩
/-- locals: a list of values, .retAddr 0 where nothing is known -/
def x_lv (ls : List Value) : List (Nat × Value) := (List.range ls.length).filterMap fun k => if ls[k]? = some (.retAddr 0) then none else (ls[k]?).map fun v => (k, v)
theorem x_lv_mem {ls : List Value} {q : Nat × Value} : q ∈ x_lv ls ↔ ls[q.1]? = some q.2 ∧ q.2 ≠ .retAddr 0 := by
  obtain ⟨k, v⟩ := q
  unfold x_lv
  rw [List.mem_filterMap]
  constructor
  · rintro ⟨j, -, hj⟩
    by_cases h : ls[j]? = some (.retAddr 0)
    · rw [if_pos h] at hj; cases hj
    · rw [if_neg h] at hj
      cases hv : ls[j]? with
      | none => rw [hv] at hj; cases hj
      | some u =>
        rw [hv] at hj h
        cases hj
        exact ⟨hv, fun e => h (by rw [show v = _ from e])⟩
  · rintro ⟨h1, h2⟩
    have h1 : ls[k]? = some v := h1
    have h2 : v ≠ .retAddr 0 := h2
    refine ⟨k, List.mem_range.mpr (List.getElem?_eq_some_iff.mp h1).1, ?_⟩
    rw [if_neg (by rw [h1]; exact fun e => h2 (Option.some.inj e)), h1]
    rfl
def x_ls (L : Array Slot) (ls : List Value) : Prop := lv_has L ls.length (x_lv ls)
theorem x_ls_at {L : Array Slot} {ls : List Value} {k : Nat} {v : Value} (h : x_ls L ls) (hk : ls[k]? = some v) (hv : v ≠ .retAddr 0) : L[k]? = some (.val v) := h.2.2 (k, v) (x_lv_mem.mpr ⟨hk, hv⟩)
theorem x_ls_sub {L : Array Slot} {n : Nat} {l : List (Nat × Value)} {ls : List Value} (h : lv_has L n l) (hn : n = ls.length) (hs : ∀ q ∈ x_lv ls, q ∈ l) : x_ls L ls := ⟨h.1.trans hn, h.2.1, fun q hq => h.2.2 q (hs q hq)⟩
theorem x_ls_st1 {L : Array Slot} {ls : List Value} {i : Nat} {v : Value} (h : lv_has L ls.length ((i, v) :: (x_lv ls).filter (fun q => !(q.1 == i) && !(q.1 + 1 == i && q.2.category == 2)))) (hi : i < ls.length) (hn : x_nl ls i) : x_ls L (ls.set i v) := by
  refine x_ls_sub h (by rw [List.length_set]) fun q hq => ?_
  obtain ⟨h1, h2⟩ := x_lv_mem.mp hq
  obtain ⟨k, u⟩ := q
  have h1 : (ls.set i v)[k]? = some u := h1
  have h2 : u ≠ .retAddr 0 := h2
  by_cases hk : k = i
  · subst hk
    rw [List.getElem?_set_self hi] at h1
    cases h1
    exact List.mem_cons_self
  · rw [List.getElem?_set_ne (Ne.symm hk)] at h1
    refine List.mem_cons_of_mem _ (List.mem_filter.mpr ⟨x_lv_mem.mpr ⟨h1, h2⟩, ?_⟩)
    simp only [Bool.and_eq_true, Bool.not_eq_true', beq_eq_false_iff_ne, ne_eq, Bool.and_eq_false_iff]
    refine ⟨hk, ?_⟩
    by_cases hk2 : k + 1 = i
    · right
      rw [hn k u hk2.symm h1]
      decide
    · left; exact hk2
theorem x_ls_st2 {L : Array Slot} {ls : List Value} {i : Nat} {v : Value} (h : lv_has L ls.length ((i, v) :: (x_lv ls).filter (fun q => !(q.1 == i) && (!(q.1 == i + 1) && !(q.1 + 1 == i && q.2.category == 2))))) (hi : i + 1 < ls.length) (hn : x_nl ls i) : x_ls L ((ls.set i v).set (i + 1) (.retAddr 0)) := by
  refine x_ls_sub h (by rw [List.length_set, List.length_set]) fun q hq => ?_
  obtain ⟨h1, h2⟩ := x_lv_mem.mp hq
  obtain ⟨k, u⟩ := q
  have h1 : ((ls.set i v).set (i + 1) (.retAddr 0))[k]? = some u := h1
  have h2 : u ≠ .retAddr 0 := h2
  by_cases hk1 : k = i + 1
  · subst hk1
    rw [List.getElem?_set_self (by rw [List.length_set]; exact hi)] at h1
    cases h1
    exact absurd rfl h2
  · rw [List.getElem?_set_ne (Ne.symm hk1)] at h1
    by_cases hk : k = i
    · subst hk
      rw [List.getElem?_set_self (by omega)] at h1
      cases h1
      exact List.mem_cons_self
    · rw [List.getElem?_set_ne (Ne.symm hk)] at h1
      refine List.mem_cons_of_mem _ (List.mem_filter.mpr ⟨x_lv_mem.mpr ⟨h1, h2⟩, ?_⟩)
      simp only [Bool.and_eq_true, Bool.not_eq_true', beq_eq_false_iff_ne, ne_eq, Bool.and_eq_false_iff]
      refine ⟨hk, hk1, ?_⟩
      by_cases hk2 : k + 1 = i
      · right
        rw [hn k u hk2.symm h1]
        decide
      · left; exact hk2
/-- a call's arguments are its first locals -/
theorem x_sl_len (vs : List Value) : (x_sl vs).length = (lg_sl vs).length := by
  induction vs with
  | nil => rfl
  | cons v r ih =>
    simp only [x_sl, lg_sl, List.flatMap_cons, List.length_append] at ih ⊢
    rw [ih]
    by_cases h : v.category = 2 <;> simp [h]
theorem x_sl_at (vs : List Value) (n k : Nat) (v : Value) (h : (x_sl vs ++ List.replicate n (.retAddr 0))[k]? = some v) (hv : v ≠ .retAddr 0) : (lg_sl vs ++ List.replicate n Slot.unset)[k]? = some (.val v) := by
  induction vs generalizing k with
  | nil =>
    simp only [x_sl, List.flatMap_nil, List.nil_append] at h
    rw [List.getElem?_replicate] at h
    by_cases hk : k < n
    · rw [if_pos hk] at h; cases h; exact absurd rfl hv
    · rw [if_neg hk] at h; cases h
  | cons w r ih =>
    simp only [x_sl, lg_sl, List.flatMap_cons, List.append_assoc] at h ih ⊢
    by_cases hc : w.category = 2
    · rw [if_pos hc] at h ⊢
      match k, h with
      | 0, h => simp at h; subst h; simp
      | 1, h => simp at h; exact absurd h.symm hv
      | k + 2, h =>
        simp only [List.cons_append, List.nil_append, List.getElem?_cons_succ] at h ⊢
        exact ih k h
    · rw [if_neg hc] at h ⊢
      match k, h with
      | 0, h => simp at h; subst h; simp
      | k + 1, h =>
        simp only [List.cons_append, List.nil_append, List.getElem?_cons_succ] at h ⊢
        exact ih k h
theorem x_ls_in {vs : List Value} {n : Nat} (h : (x_sl vs).length ≤ n) : x_ls ((lg_sl vs ++ List.replicate (n - (lg_sl vs).length) Slot.unset).toArray) (x_in n vs) := by
  have hl := lv_entry vs (n := n) (by rw [← x_sl_len]; exact h)
  have hlen : (x_in n vs).length = n := by
    unfold x_in
    rw [List.length_append, List.length_replicate]
    omega
  refine ⟨hl.1.trans hlen.symm, hl.2.1, fun q hq => ?_⟩
  obtain ⟨h1, h2⟩ := x_lv_mem.mp hq
  unfold x_in at h1
  rw [x_sl_len] at h1
  rw [List.getElem?_toArray]
  exact x_sl_at vs _ q.1 q.2 h1 h2
theorem x_lt0 (a : Int32) : a < 0 ↔ a.toInt < 0 := by rw [Int32.lt_iff_toInt_lt, Int32.toInt_zero]
theorem x_clamp (j : Int32) : j.toNatClampNeg = j.toInt.toNat := by
  first | rfl | (simp [Int32.toNatClampNeg])
theorem x_ix_in {j : Int32} {L : List Value} (h : (x_ix j L).isSome) : ¬ (j < 0 ∨ L.length ≤ j.toNatClampNeg) ∧ ¬ j.toInt < 0 ∧ j.toInt.toNat < L.length := by
  unfold x_ix at h
  by_cases hn : j.toInt < 0
  · rw [if_pos hn] at h; cases h
  · rw [if_neg hn] at h
    have hlt : j.toInt.toNat < L.length := by
      cases hv : L[j.toInt.toNat]? with
      | none => rw [hv] at h; cases h
      | some v => exact (List.getElem?_eq_some_iff.mp hv).1
    refine ⟨?_, hn, hlt⟩
    rw [x_lt0, x_clamp]
    omega
theorem x_ix_at {j : Int32} {L : List Value} {v : Value} (h : x_ix j L = some v) : L[j.toNatClampNeg]? = some v := by
  unfold x_ix at h
  by_cases hn : j.toInt < 0
  · rw [if_pos hn] at h; cases h
  · rw [if_neg hn] at h
    rw [x_clamp]; exact h
