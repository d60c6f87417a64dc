/-! EACH STEP OF THE ABSTRACT MACHINE IS ONE OF THE MACHINE -/
def x_nms : List String := ["BOX", "GLUE", "KERN", "PENALTY", "INSERT", "MARK"]
def xv_cst (own : String) (cx : xC) : Prop := (∀ k v, cx.2.1 k = some (.int v) → Cond.constant own k v ∈ xT) ∧ (∀ k v, cx.2.1 k = some (.long v) → Cond.constantLong own k v ∈ xT)
def xv_sta (own : String) (ad : Nat → Nat) (cx : xC) : Prop := ∀ k v, cx.2.2.2.2.1 k = some v → ∃ i, i < 6 ∧ v = .ref (ad i) ∧ (k < 1000000 → Cond.fieldLink own k "PageBuilder$Kind" (x_nms.getD i "") "LPageBuilder$Kind;" ∈ xT) ∧ (1000000 ≤ k → k = 1000000 + i)
def xv_fld (own : String) (ini : Bool) (cx : xC) : Prop := ∀ k t j ty wr, cx.1 k = some (t, j, ty, wr) → (∃ r, vwCl[t]? = some r ∧ t < 100 ∧ j < r.2.2 ∧ Cond.fieldLink own k (r.2.1 j).1 (r.2.1 j).2.1 (r.2.1 j).2.2.1 ∈ xT ∧ parseFieldDescriptor (r.2.1 j).2.2.1 = some ty ∧ (wr = true → (r.2.1 j).2.2.2 = false ∨ (ini = true ∧ (r.2.1 j).1 = own))) ∨ (t = 107 ∧ j = 0 ∧ wr = false ∧ Cond.fieldLink own k "PageBuilder$Kind" "goesAtTop" "Z" ∈ xT)
def xv_new (own : String) (cx : xC) : Prop := ∀ k t fs, cx.2.2.1 k = some (t, fs) → ∃ (r : vw_C) (ty : Nat → FieldType), vwCl[t]? = some r ∧ t < 100 ∧ fs.length = r.2.2 ∧ (∀ j, j < r.2.2 → parseFieldDescriptor (r.2.1 j).2.2.1 = some (ty j)) ∧ (∀ j, j < r.2.2 → defaultValue (ty j) = vp_V fs j) ∧ Cond.classLink own k r.1 ∈ xT ∧ Cond.instantiable r.1 r.2.2 ∈ xT ∧ Cond.initialized r.1 ∈ xT
def xv_anew (own : String) (cx : xC) : Prop := ∀ k t, cx.2.2.2.1 k = some t → 103 ≤ t ∧ t < 106 ∧ ∃ C, x_ty t = .object C ∧ Cond.classLink own k C ∈ xT ∧ C ∈ ["PageBuilder$Item", "PageBuilder$InsertClass", "PageBuilder$Page"]
def x_fx (p : Program) (s : State) (m : MethodId) (args : Array Value) (c : Code) (cc : ByteArray) (own : String) (D : va_G) (cA ad : Nat → Nat) (B : Nat) : Prop := p.tables.exec = Jvm.exec ∧ c.code = cc ∧ s.vm.findClass own = some m.cls ∧ (∀ w ∈ xT, w.before args s = true) ∧ x_tk D cA ad B s s.heap ∧ B ≤ s.heap.size
set_option maxRecDepth 20000 in
theorem x_cls0 : (∀ w ∈ u_ws RJx00060 TJx00060 6, w ∈ xT) ∧ (∀ w ∈ u_ws RX0 TX0 14, w ∈ xT) ∧ (∀ w ∈ u_ws RX1 TX1 5, w ∈ xT) ∧ (∀ w ∈ u_ws RX2 TX2 13, w ∈ xT) ∧ (∀ w ∈ u_ws RX4 TX4 3, w ∈ xT) ∧ (∀ w ∈ u_ws RX5 TX5 6, w ∈ xT) ∧ (∀ w ∈ u_ws RX6 TX6 8, w ∈ xT) ∧ (∀ w ∈ u_ws RX7 TX7 11, w ∈ xT) ∧ (∀ w ∈ u_ws RX8 TX8 45, w ∈ xT) := by
  have key : ∀ (C : String) (T : u_T) (N : Nat), (∀ w ∈ u_ws C T N, w ∈ lw_tbl) → ∀ w ∈ u_ws C T N, w ∈ xT := by
    intro C T N h w hw
    refine xT_in (h w hw) ?_
    obtain ⟨k, -, rfl⟩ := List.mem_map.mp hw
    unfold u_lay
    split <;> rfl
  exact ⟨key _ _ _ inJx00060, key _ _ _ inX0, key _ _ _ inX1, key _ _ _ inX2, key _ _ _ inX4, key _ _ _ inX5, key _ _ _ inX6, key _ _ _ inX7, key _ _ _ inX8⟩
theorem x_cls {t : Nat} {r : vw_C} (h : vwCl[t]? = some r) : (∀ w ∈ u_ws r.1 r.2.1 r.2.2, w ∈ xT) ∧ (∃ ty0 : Nat → FieldType, ∀ k, k < r.2.2 → parseFieldDescriptor (r.2.1 k).2.2.1 = some (ty0 k)) ∧ ∀ a, a < r.2.2 → ∀ b, b < r.2.2 → a ≠ b → (r.2.1 a).2.1 ≠ (r.2.1 b).2.1 := by
  obtain ⟨h0, h1, h2, h3, h4, h5, h6, h7, h8⟩ := x_cls0
  match t, h with
  | 0, h => cases h; exact ⟨h0, ⟨_, tyJx00060_ok⟩, nmJx00060⟩
  | 1, h => cases h; exact ⟨h1, ⟨_, tyX0_ok⟩, nmX0⟩
  | 2, h => cases h; exact ⟨h2, ⟨_, tyX1_ok⟩, nmX1⟩
  | 3, h => cases h; exact ⟨h3, ⟨_, tyX2_ok⟩, nmX2⟩
  | 4, h => cases h; exact ⟨h4, ⟨_, tyX4_ok⟩, nmX4⟩
  | 5, h => cases h; exact ⟨h5, ⟨_, tyX5_ok⟩, nmX5⟩
  | 6, h => cases h; exact ⟨h6, ⟨_, tyX6_ok⟩, nmX6⟩
  | 7, h => cases h; exact ⟨h7, ⟨_, tyX7_ok⟩, nmX7⟩
  | 8, h => cases h; exact ⟨h8, ⟨_, tyX8_ok⟩, nmX8⟩
  | t + 9, h => simp [vwCl] at h
set_option maxRecDepth 20000 in
theorem x_prim : Cond.arrayClass .int ∈ xT ∧ Cond.arrayClass .long ∈ xT ∧ Cond.arrayClass .boolean ∈ xT := ⟨xT_in (by decide +kernel) rfl, xT_in (by decide +kernel) rfl, xT_in (by decide +kernel) rfl⟩
section XS
variable {p : Program} {l : Launch} {e : Env} {R : Room} {s : State} {m : MethodId} {args : Array Value} {below : List Frame} {meth : Method} {c : Code} {H : Heap} {locs : List Loc} {cells slots : Nat} {Q : State → Prop} {cc : ByteArray} {own : String} {D : va_G} {cA ad : Nat → Nat} {B : Nat} {cx : xC} {i : Instr} {n pc pc' : Nat} {L : Array Slot} {ls st ls' st' : List Value} {σ σ' : xW}
theorem xs_pure (F : x_fx p s m args c cc own D cA ad B) (hc : xv_cst own cx) (hs : xv_sta own ad cx) (hS : va_S (fun q => B ≤ q) s.heap H locs) (d : decode cc pc = .ok (i, n)) (hl : x_len i n) (h : x_pure cx i st st') (k : W p l e R s m args below meth c H locs cells slots Q (F0 m (pc + n) L st')) : W p l e R s m args below meth c H locs cells slots Q (F0 m pc L st) := by
  obtain ⟨hx, hb, hown, hts, hT, hB⟩ := F
  cases i with
  | iconst a => cases hl; cases h; exact lv_iconst hx hb d rfl k
  | bipush a => cases hl; cases h; exact lv_bipush hx hb d rfl k
  | sipush a => cases hl; cases h; exact lv_sipush hx hb d rfl k
  | lconst a => cases hl; cases h; exact lv_lconst hx hb d rfl k
  | aconst_null => cases hl; cases h; exact lv_null hx hb d k
  | ldc a => cases hl; obtain ⟨v, h1, rfl⟩ := h; exact lv_ldc hx hb hown (hts _ (hc.1 _ _ h1)) d k
  | ldc2_w a => cases hl; obtain ⟨v, h1, rfl⟩ := h; exact lv_ldc2 hx hb hown (hts _ (hc.2 _ _ h1)) d k
  | getstatic a =>
    cases hl
    obtain ⟨v, h1, hk, rfl⟩ := h
    obtain ⟨i, hi, rfl, hw, -⟩ := hs _ _ h1
    replace hw := hw hk
    exact va_gets hx hb ((hT.2.2.2.2.1.1 i hi).1) hS hown (hts _ hw) (fun _ h9 => h9) d k
  | iadd => cases hl; obtain ⟨a, b, r, rfl, rfl⟩ := h; exact lv_iadd hx hb d k
  | isub => cases hl; obtain ⟨a, b, r, rfl, rfl⟩ := h; exact lv_isub hx hb d k
  | imul => cases hl; obtain ⟨a, b, r, rfl, rfl⟩ := h; exact lv_imul hx hb d k
  | iand => cases hl; obtain ⟨a, b, r, rfl, rfl⟩ := h; exact lv_iand hx hb d k
  | irem => cases hl; obtain ⟨a, b, r, rfl, h0, rfl⟩ := h; exact lv_irem hx hb d h0 k
  | ladd => cases hl; obtain ⟨a, b, r, rfl, rfl⟩ := h; exact lv_ladd hx hb d k
  | lsub => cases hl; obtain ⟨a, b, r, rfl, rfl⟩ := h; exact lv_lsub hx hb d k
  | lmul => cases hl; obtain ⟨a, b, r, rfl, rfl⟩ := h; exact lv_lmul hx hb d k
  | ldiv => cases hl; obtain ⟨a, b, r, rfl, h0, rfl⟩ := h; exact lv_ldiv hx hb d h0 k
  | lneg => cases hl; obtain ⟨a, r, rfl, rfl⟩ := h; exact lv_lneg hx hb d k
  | lcmp => cases hl; obtain ⟨a, b, r, rfl, rfl⟩ := h; exact W.lcmp hx hb d k
  | i2l => cases hl; obtain ⟨a, r, rfl, rfl⟩ := h; exact lv_i2l hx hb d rfl k
  | l2i => cases hl; obtain ⟨a, r, rfl, rfl⟩ := h; exact lv_l2i hx hb d rfl k
  | dup => cases hl; obtain ⟨v, r, rfl, h0, rfl⟩ := h; exact lv_dup hx hb d h0 k
  | pop => cases hl; obtain ⟨v, r, rfl, h0, rfl⟩ := h; exact lv_pop hx hb d h0 k
  | dup2 =>
    cases hl
    rcases h with ⟨v, r, rfl, h0, rfl⟩ | ⟨v, u, r, rfl, h0, h1, rfl⟩
    · exact lv_dup2_2 hx hb d h0 k
    · exact lv_dup2_11 hx hb d h0 h1 k
  | _ => exact (h : False).elim
theorem xs_load (F : x_fx p s m args c cc own D cA ad B) (hL : x_ls L ls) (d : decode cc pc = .ok (i, n)) (hl : x_len i n) (h : x_load i ls st st') (k : W p l e R s m args below meth c H locs cells slots Q (F0 m (pc + n) L st')) : W p l e R s m args below meth c H locs cells slots Q (F0 m pc L st) := by
  obtain ⟨hx, hb, hown, hts, hT, hB⟩ := F
  cases i with
  | iload a => cases hl; obtain ⟨v, h1, rfl⟩ := h; exact lv_iload hx hb d (x_ls_at hL h1 (by simp)) k
  | iload_n a => cases hl; obtain ⟨v, h1, rfl⟩ := h; exact lv_iload_n hx hb d rfl (x_ls_at hL h1 (by simp)) k
  | lload a => cases hl; obtain ⟨v, h1, rfl⟩ := h; exact lv_lload hx hb d (x_ls_at hL h1 (by simp)) k
  | lload_n a => cases hl; obtain ⟨v, h1, rfl⟩ := h; exact lv_lload_n hx hb d rfl (x_ls_at hL h1 (by simp)) k
  | aload a =>
    cases hl
    obtain ⟨v, h1, rfl | ⟨b, rfl⟩, rfl⟩ := h
    · exact lv_aloadN hx hb d (x_ls_at hL h1 (by simp)) k
    · exact lv_aload hx hb d (x_ls_at hL h1 (by simp)) k
  | aload_n a =>
    cases hl
    obtain ⟨v, h1, rfl | ⟨b, rfl⟩, rfl⟩ := h
    · exact lv_aload_nN hx hb d rfl (x_ls_at hL h1 (by simp)) k
    · exact lv_aload_n hx hb d rfl (x_ls_at hL h1 (by simp)) k
  | _ => exact (h : False).elim
theorem xs_store (F : x_fx p s m args c cc own D cA ad B) (hL : x_ls L ls) (d : decode cc pc = .ok (i, n)) (hl : x_len i n) (h : x_store i ls st ls' st') (k : ∀ L' : Array Slot, x_ls L' ls' → W p l e R s m args below meth c H locs cells slots Q (F0 m (pc + n) L' st')) : W p l e R s m args below meth c H locs cells slots Q (F0 m pc L st) := by
  obtain ⟨hx, hb, hown, hts, hT, hB⟩ := F
  cases i with
  | istore a => cases hl; obtain ⟨v, rfl, h1, h2, rfl⟩ := h; exact lv_istore hx hb d hL h1 rfl fun L' h' => k L' (x_ls_st1 h' h1 h2)
  | istore_n a => cases hl; obtain ⟨v, rfl, h1, h2, rfl⟩ := h; exact lv_istore_n hx hb d rfl hL h1 rfl fun L' h' => k L' (x_ls_st1 h' h1 h2)
  | astore a =>
    cases hl
    obtain ⟨v, rfl, rfl | ⟨b, rfl⟩, h1, h2, rfl⟩ := h
    · exact lv_astoreN hx hb d hL h1 rfl fun L' h' => k L' (x_ls_st1 h' h1 h2)
    · exact lv_astore hx hb d hL h1 rfl fun L' h' => k L' (x_ls_st1 h' h1 h2)
  | astore_n a =>
    cases hl
    obtain ⟨v, rfl, rfl | ⟨b, rfl⟩, h1, h2, rfl⟩ := h
    · exact lv_astore_nN hx hb d rfl hL h1 rfl fun L' h' => k L' (x_ls_st1 h' h1 h2)
    · exact lv_astore_n hx hb d rfl hL h1 rfl fun L' h' => k L' (x_ls_st1 h' h1 h2)
  | lstore a => cases hl; obtain ⟨v, rfl, h1, h2, rfl⟩ := h; exact lv_lstore hx hb d hL h1 rfl fun L' h' => k L' (x_ls_st2 h' h1 h2)
  | lstore_n a => cases hl; obtain ⟨v, rfl, h1, h2, rfl⟩ := h; exact lv_lstore_n hx hb d rfl hL h1 rfl fun L' h' => k L' (x_ls_st2 h' h1 h2)
  | iinc a b =>
    cases hl
    obtain ⟨v, h1, h2, rfl, rfl⟩ := h
    have hi : a < ls.length := (List.getElem?_eq_some_iff.mp h1).1
    obtain ⟨q, hq⟩ := List.getElem?_of_mem (x_lv_mem (q := (a, .int v)).mpr ⟨h1, by simp⟩)
    exact lv_iinc hx hb d hL hq rfl hi rfl fun L' h' => k L' (x_ls_st1 h' hi h2)
  | _ => exact (h : False).elim
theorem xs_jump (F : x_fx p s m args c cc own D cA ad B) (d : decode cc pc = .ok (i, n)) (hl : x_len i n) (h : x_jump i n pc st pc' st') (k : W p l e R s m args below meth c H locs cells slots Q (F0 m pc' L st')) : W p l e R s m args below meth c H locs cells slots Q (F0 m pc L st) := by
  obtain ⟨hx, hb, hown, hts, hT, hB⟩ := F
  have hz : ∀ q r : Int32, q < r ↔ q.toInt < r.toInt := fun q r => Int32.lt_iff_toInt_lt
  have hy : ∀ q r : Int32, r ≤ q ↔ ¬ q.toInt < r.toInt := fun q r => by rw [Int32.le_iff_toInt_le]; omega
  cases i with
  | goto o => cases hl; obtain ⟨h1, rfl⟩ := h; exact lv_goto hx hb d h1 k
  | ifCond cd o =>
    cases hl
    obtain ⟨a, tg, rfl, ht, h⟩ := h
    cases cd with
    | eq => rcases h with ⟨h1, rfl⟩ | ⟨h1, rfl⟩
            · exact lv_if_eq hx hb d ht (fun _ => k) (fun q => absurd h1 q)
            · exact lv_if_eq hx hb d ht (fun q => absurd q h1) (fun _ => k)
    | ne => rcases h with ⟨h1, rfl⟩ | ⟨h1, rfl⟩
            · exact lv_if_ne hx hb d ht (fun _ => k) (fun q => absurd q h1)
            · exact lv_if_ne hx hb d ht (fun q => absurd q h1) (fun _ => k)
    | lt => rcases h with ⟨h1, rfl⟩ | ⟨h1, rfl⟩
            · exact lv_if_lt hx hb d ht (fun _ => k) (fun q => absurd ((hz _ _).mpr h1) q)
            · exact lv_if_lt hx hb d ht (fun q => absurd ((hz _ _).mp q) h1) (fun _ => k)
    | ge => rcases h with ⟨h1, rfl⟩ | ⟨h1, rfl⟩
            · exact lv_if_ge hx hb d ht (fun _ => k) (fun q => absurd ((hy _ _).mpr h1) q)
            · exact lv_if_ge hx hb d ht (fun q => absurd ((hy _ _).mp q) h1) (fun _ => k)
    | gt => rcases h with ⟨h1, rfl⟩ | ⟨h1, rfl⟩
            · exact lv_if_gt hx hb d ht (fun _ => k) (fun q => absurd ((hz _ _).mpr h1) q)
            · exact lv_if_gt hx hb d ht (fun q => absurd ((hz _ _).mp q) h1) (fun _ => k)
    | le => rcases h with ⟨h1, rfl⟩ | ⟨h1, rfl⟩
            · exact lv_if_le hx hb d ht (fun _ => k) (fun q => absurd ((hy _ _).mpr h1) q)
            · exact lv_if_le hx hb d ht (fun q => absurd ((hy _ _).mp q) h1) (fun _ => k)
  | if_icmp cd o =>
    cases hl
    obtain ⟨a, b, tg, rfl, ht, h⟩ := h
    cases cd with
    | eq => rcases h with ⟨h1, rfl⟩ | ⟨h1, rfl⟩
            · exact lv_icmp_eq hx hb d ht (fun _ => k) (fun q => absurd h1 q)
            · exact lv_icmp_eq hx hb d ht (fun q => absurd q h1) (fun _ => k)
    | ne => rcases h with ⟨h1, rfl⟩ | ⟨h1, rfl⟩
            · exact lv_icmp_ne hx hb d ht (fun _ => k) (fun q => absurd q h1)
            · exact lv_icmp_ne hx hb d ht (fun q => absurd q h1) (fun _ => k)
    | lt => rcases h with ⟨h1, rfl⟩ | ⟨h1, rfl⟩
            · exact lv_icmp_lt hx hb d ht (fun _ => k) (fun q => absurd ((hz _ _).mpr h1) q)
            · exact lv_icmp_lt hx hb d ht (fun q => absurd ((hz _ _).mp q) h1) (fun _ => k)
    | ge => rcases h with ⟨h1, rfl⟩ | ⟨h1, rfl⟩
            · exact lv_icmp_ge hx hb d ht (fun _ => k) (fun q => absurd ((hy _ _).mpr h1) q)
            · exact lv_icmp_ge hx hb d ht (fun q => absurd ((hy _ _).mp q) h1) (fun _ => k)
    | gt => rcases h with ⟨h1, rfl⟩ | ⟨h1, rfl⟩
            · exact lv_icmp_gt hx hb d ht (fun _ => k) (fun q => absurd ((hz _ _).mpr h1) q)
            · exact lv_icmp_gt hx hb d ht (fun q => absurd ((hz _ _).mp q) h1) (fun _ => k)
    | le => rcases h with ⟨h1, rfl⟩ | ⟨h1, rfl⟩
            · exact lv_icmp_le hx hb d ht (fun _ => k) (fun q => absurd ((hy _ _).mpr h1) q)
            · exact lv_icmp_le hx hb d ht (fun q => absurd ((hy _ _).mp q) h1) (fun _ => k)
  | if_acmp cd o =>
    have rf : ∀ {v : Value}, x_rfv v → ∃ r : Option Nat, v = va_rf r := by
      rintro v (rfl | ⟨a, rfl⟩)
      · exact ⟨none, rfl⟩
      · exact ⟨some a, rfl⟩
    have inj : ∀ {r q : Option Nat}, va_rf r = va_rf q ↔ r = q := by
      intro r q
      cases r <;> cases q <;> simp [va_rf]
    cases hl
    cases cd with
    | eq =>
      obtain ⟨a, b, tg, rfl, ha, hb2, ht, h⟩ := h
      obtain ⟨ra, rfl⟩ := rf ha
      obtain ⟨rb, rfl⟩ := rf hb2
      rw [inj] at h
      rcases h with ⟨h1, rfl⟩ | ⟨h1, rfl⟩
      · exact lv_acmp_eq hx hb d ht (fun _ => k) (fun q => absurd h1 q)
      · exact lv_acmp_eq hx hb d ht (fun q => absurd q h1) (fun _ => k)
    | ne =>
      obtain ⟨a, b, tg, rfl, ha, hb2, ht, h⟩ := h
      obtain ⟨ra, rfl⟩ := rf ha
      obtain ⟨rb, rfl⟩ := rf hb2
      rw [inj] at h
      rcases h with ⟨h1, rfl⟩ | ⟨h1, rfl⟩
      · exact lv_acmp_ne hx hb d ht (fun _ => k) (fun q => absurd q h1)
      · exact lv_acmp_ne hx hb d ht (fun q => absurd h1 q) (fun _ => k)
  | ifnull o =>
    cases hl
    obtain ⟨a, tg, rfl, rfl | ⟨b, rfl⟩, ht, h⟩ := h
    · rcases h with ⟨-, rfl⟩ | ⟨h1, -⟩
      · exact lv_ifnullN hx hb d ht k
      · exact absurd rfl h1
    · rcases h with ⟨h1, -⟩ | ⟨-, rfl⟩
      · cases h1
      · exact lv_ifnull hx hb d k
  | ifnonnull o =>
    cases hl
    obtain ⟨a, tg, rfl, rfl | ⟨b, rfl⟩, ht, h⟩ := h
    · rcases h with ⟨h1, -⟩ | ⟨-, rfl⟩
      · exact absurd rfl h1
      · exact lv_ifnonnullN hx hb d k
    · rcases h with ⟨-, rfl⟩ | ⟨h1, -⟩
      · exact lv_ifnonnull hx hb d ht k
      · cases h1
  | tableswitch dd lo hi os =>
    obtain ⟨a, rfl, h⟩ := h
    rcases h with ⟨h1, ht⟩ | ⟨h1, h2, o, ho, ht⟩
    · exact lv_tableOut hx hb d h1 ht k
    · exact lv_tableIn hx hb d h1 h2 ho ht k
  | _ => exact (h : False).elim
end XS
