/-! THE MODEL'S STATE, and how the reference holds it -/
abbrev MI : Type := Nat × (Nat → It)
abbrev MC : Type := Nat × (Nat → Int32 × Int32 × Int32 × Int32)
abbrev MT : Type := Int32 × Int32 × Int32
/-- the line, what is left of each item's height, which items went -/
abbrev ML : Type := List Nat × (Nat → Int32) × (Nat → Bool)
/-- the page: (item, part, over); a box is on it; its twelve numbers; greatest depth, top; inserted; classes met, stopped -/
abbrev MD : Type := List (Nat × Int32 × Bool) × Bool × (Nat → Int64) × Int32 × Int32 × Int64 × (Nat → Bool) × (Nat → Bool)
/-- the break: there is one; where, cost, price, numbers -/
abbrev MB : Type := Bool × Nat × Int64 × Int32 × (Nat → Int64)
/-- a page that ended: (item, part); numbers, cost, price; marks -/
abbrev PG : Type := List (Nat × Int32) × (Nat → Int64) × Int64 × Int32 × Int32 × Int32 × Int32
abbrev MS : Type := MI × MC × MT × ML × MD × MB × List PG
def aw (w : xM) (M : Nat → Nat) (c t N n : Nat) (f : Nat → Value) : Prop := ∃ V, w (M c) = some (t, V) ∧ apre V N n f
theorem aw_frc {w w' : xM} {M : Nat → Nat} {c t N n : Nat} {f : Nat → Value} {cs : List Nat} (hM : ainj M) (hf : frc M cs w w') (hc : c ∉ cs) (h : aw w M c t N n f) : aw w' M c t N n f := by
  obtain ⟨V, h1, h2⟩ := h
  exact ⟨V, (frc_at hM hf hc).trans h1, h2⟩
theorem aw_congr {w : xM} {M : Nat → Nat} {c t N n : Nat} {f g : Nat → Value} (h : aw w M c t N n f) (hg : ∀ i, i < n → f i = g i) : aw w M c t N n g := by
  obtain ⟨V, h1, h2⟩ := h
  exact ⟨V, h1, apre_congr h2 hg⟩
theorem aw_le {w : xM} {M : Nat → Nat} {c t N n m : Nat} {f : Nat → Value} (h : aw w M c t N n f) (hm : m ≤ n) : aw w M c t N m f := by
  obtain ⟨V, h1, h2⟩ := h
  exact ⟨V, h1, apre_le h2 hm⟩
def RMI (w : xM) (M : Nat → Nat) (S : MI) : Prop := aw w M 2 100 400 S.1 (fun i => .int (nI (S.2 i).1)) ∧ aw w M 3 100 400 S.1 (fun i => .int (S.2 i).2.1) ∧ aw w M 4 100 400 S.1 (fun i => .int (S.2 i).2.2.1) ∧ aw w M 5 100 400 S.1 (fun i => .int (S.2 i).2.2.2.1) ∧ aw w M 6 100 400 S.1 (fun i => .int (S.2 i).2.2.2.2)
def RMC (w : xM) (M : Nat → Nat) (S : MC) : Prop := aw w M 8 100 4 S.1 (fun i => .int (S.2 i).1) ∧ aw w M 9 100 4 S.1 (fun i => .int (S.2 i).2.1) ∧ aw w M 10 100 4 S.1 (fun i => .int (S.2 i).2.2.1) ∧ aw w M 11 100 4 S.1 (fun i => .int (S.2 i).2.2.2)
def RML (w : xM) (M : Nat → Nat) (S : ML) : Prop := aw w M 16 100 900 S.1.length (fun i => .int (nI (S.1.getD i 0))) ∧ aw w M 17 100 900 S.1.length (fun i => .int (S.2.1 (S.1.getD i 0)))
def on_i (l : List (Nat × Int32 × Bool)) (i : Nat) : Nat := (l.getD i (0, 0, false)).1
def on_p (l : List (Nat × Int32 × Bool)) (i : Nat) : Int32 := (l.getD i (0, 0, false)).2.1
def on_o (l : List (Nat × Int32 × Bool)) (i : Nat) : Bool := (l.getD i (0, 0, false)).2.2
def b4 (f : Nat → Bool) : List Value := [.int (bz (f 0)), .int (bz (f 1)), .int (bz (f 2)), .int (bz (f 3))]
def RMD (w : xM) (M : Nat → Nat) (lf : Nat → Int32) (S : MD) : Prop := aw w M 19 100 900 S.1.length (fun i => .int (nI (on_i S.1 i))) ∧ aw w M 20 100 900 S.1.length (fun i => .int (lf (on_i S.1 i))) ∧ aw w M 21 100 900 S.1.length (fun i => .int (on_p S.1 i)) ∧ aw w M 22 102 900 S.1.length (fun i => .int (bz (on_o S.1 i))) ∧ w (M 28) = some (102, b4 S.2.2.2.2.2.2.1) ∧ w (M 29) = some (102, b4 S.2.2.2.2.2.2.2)
/-- the two halves of 'state' -/
def RMS (w : xM) (M : Nat → Nat) (st bst : Nat → Int64) (hk : Bool) : Prop := ∃ V, w (M 24) = some (101, V) ∧ V.length = 24 ∧ (∀ i, i < 12 → V[i]? = some (.long (st i))) ∧ (hk = true → ∀ i, i < 12 → V[12 + i]? = some (.long (bst i)))
def pg_n (P : List PG) : Nat := (P.map fun q => q.1.length).sum
def pg_b (P : List PG) (p : Nat) : Nat := pg_n (P.take p)
def pg_at (P : List PG) (p : Nat) : PG := P.getD p ([], fun _ => 0, 0, 0, 0, 0, 0)
def pg_it (P : List PG) : List (Nat × Int32) := P.flatMap fun q => q.1
def RMP (w : xM) (M : Nat → Nat) (P : List PG) : Prop := aw w M 35 100 61 (P.length + 1) (fun p => .int (nI (pg_b P p))) ∧ aw w M 36 100 25000 (pg_n P) (fun i => .int (nI ((pg_it P).getD i (0, 0)).1)) ∧ aw w M 37 100 25000 (pg_n P) (fun i => .int ((pg_it P).getD i (0, 0)).2) ∧
  aw w M 38 101 720 (12 * P.length) (fun i => .long ((pg_at P (i / 12)).2.1 (i % 12))) ∧ aw w M 39 101 60 P.length (fun p => .long (pg_at P p).2.2.1) ∧ aw w M 40 100 60 P.length (fun p => .int (pg_at P p).2.2.2.1) ∧ aw w M 41 100 180 (3 * P.length) (fun i => .int (if i % 3 = 0 then (pg_at P (i / 3)).2.2.2.2.1 else if i % 3 = 1 then (pg_at P (i / 3)).2.2.2.2.2.1 else (pg_at P (i / 3)).2.2.2.2.2.2))
def pg_bot (P : List PG) : Int32 := match P.getLast? with
  | some q => q.2.2.2.2.2.2
  | none => 0
/-- scratch rows of end() -/
def RMX (w : xM) (M : Nat → Nat) : Prop := aw w M 43 100 900 0 (fun _ => .int 0) ∧ aw w M 44 100 900 0 (fun _ => .int 0)
def mo_ (M : Nat → Nat) (thr : Int32) (S : MS) : xE := mobj M thr (nI S.1.1) (nI S.2.1.1) S.2.2.1.1 S.2.2.1.2.1 S.2.2.1.2.2 (nI S.2.2.2.1.1.length) (nI S.2.2.2.2.1.1.length) (bz S.2.2.2.2.1.2.1) S.2.2.2.2.1.2.2.2.1 S.2.2.2.2.1.2.2.2.2.1 S.2.2.2.2.1.2.2.2.2.2.1 (bz S.2.2.2.2.2.1.1) (nI S.2.2.2.2.2.1.2.1) S.2.2.2.2.2.1.2.2.1 S.2.2.2.2.2.1.2.2.2.1 (nI S.2.2.2.2.2.2.length) (pg_bot S.2.2.2.2.2.2)
def RM (w : xM) (M : Nat → Nat) (thr : Int32) (S : MS) : Prop := w (M 0) = some (mo_ M thr S) ∧ RMI w M S.1 ∧ RMC w M S.2.1 ∧ RML w M S.2.2.2.1 ∧ RMD w M S.2.2.2.1.2.1 S.2.2.2.2.1 ∧ RMS w M S.2.2.2.2.1.2.2.1 S.2.2.2.2.2.1.2.2.2.2 S.2.2.2.2.2.1.1 ∧ RMP w M S.2.2.2.2.2.2 ∧ RMX w M
theorem RMI_frc {w w' : xM} {M : Nat → Nat} {S : MI} {cs : List Nat} (hM : ainj M) (hf : frc M cs w w') (hc : ∀ c ∈ [2, 3, 4, 5, 6], c ∉ cs) (h : RMI w M S) : RMI w' M S := by
  obtain ⟨h1, h2, h3, h4, h5⟩ := h
  exact ⟨aw_frc hM hf (hc _ (by simp)) h1, aw_frc hM hf (hc _ (by simp)) h2, aw_frc hM hf (hc _ (by simp)) h3, aw_frc hM hf (hc _ (by simp)) h4, aw_frc hM hf (hc _ (by simp)) h5⟩
theorem RMC_frc {w w' : xM} {M : Nat → Nat} {S : MC} {cs : List Nat} (hM : ainj M) (hf : frc M cs w w') (hc : ∀ c ∈ [8, 9, 10, 11], c ∉ cs) (h : RMC w M S) : RMC w' M S := by
  obtain ⟨h1, h2, h3, h4⟩ := h
  exact ⟨aw_frc hM hf (hc _ (by simp)) h1, aw_frc hM hf (hc _ (by simp)) h2, aw_frc hM hf (hc _ (by simp)) h3, aw_frc hM hf (hc _ (by simp)) h4⟩
theorem RML_frc {w w' : xM} {M : Nat → Nat} {S : ML} {cs : List Nat} (hM : ainj M) (hf : frc M cs w w') (hc : ∀ c ∈ [16, 17], c ∉ cs) (h : RML w M S) : RML w' M S := by
  obtain ⟨h1, h2⟩ := h
  exact ⟨aw_frc hM hf (hc _ (by simp)) h1, aw_frc hM hf (hc _ (by simp)) h2⟩
theorem RMD_frc {w w' : xM} {M : Nat → Nat} {lf : Nat → Int32} {S : MD} {cs : List Nat} (hM : ainj M) (hf : frc M cs w w') (hc : ∀ c ∈ [19, 20, 21, 22, 28, 29], c ∉ cs) (h : RMD w M lf S) : RMD w' M lf S := by
  obtain ⟨h1, h2, h3, h4, h5, h6⟩ := h
  exact ⟨aw_frc hM hf (hc _ (by simp)) h1, aw_frc hM hf (hc _ (by simp)) h2, aw_frc hM hf (hc _ (by simp)) h3, aw_frc hM hf (hc _ (by simp)) h4, (frc_at hM hf (hc _ (by simp))).trans h5, (frc_at hM hf (hc _ (by simp))).trans h6⟩
theorem RMS_frc {w w' : xM} {M : Nat → Nat} {st bst : Nat → Int64} {hk : Bool} {cs : List Nat} (hM : ainj M) (hf : frc M cs w w') (hc : 24 ∉ cs) (h : RMS w M st bst hk) : RMS w' M st bst hk := by
  obtain ⟨V, h1, h2⟩ := h
  exact ⟨V, (frc_at hM hf hc).trans h1, h2⟩
theorem RMP_frc {w w' : xM} {M : Nat → Nat} {P : List PG} {cs : List Nat} (hM : ainj M) (hf : frc M cs w w') (hc : ∀ c ∈ [35, 36, 37, 38, 39, 40, 41], c ∉ cs) (h : RMP w M P) : RMP w' M P := by
  obtain ⟨h1, h2, h3, h4, h5, h6, h7⟩ := h
  exact ⟨aw_frc hM hf (hc _ (by simp)) h1, aw_frc hM hf (hc _ (by simp)) h2, aw_frc hM hf (hc _ (by simp)) h3, aw_frc hM hf (hc _ (by simp)) h4, aw_frc hM hf (hc _ (by simp)) h5, aw_frc hM hf (hc _ (by simp)) h6, aw_frc hM hf (hc _ (by simp)) h7⟩
theorem RMX_frc {w w' : xM} {M : Nat → Nat} {cs : List Nat} (hM : ainj M) (hf : frc M cs w w') (hc : ∀ c ∈ [43, 44], c ∉ cs) (h : RMX w M) : RMX w' M := by
  obtain ⟨h1, h2⟩ := h
  exact ⟨aw_frc hM hf (hc _ (by simp)) h1, aw_frc hM hf (hc _ (by simp)) h2⟩
/-- a field of the object alone was written -/
theorem frc0 {M : Nat → Nat} {w : xM} {e : xE} : frc M [0] w (x_up w (M 0) e) := frc_up frc_rf (List.mem_singleton.mpr rfl)
