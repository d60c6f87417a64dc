abbrev wX4_init (B : Nat) (ad : Nat → Nat) (K : xK) : Nat → List Value → List Value → xW → Prop := x_WP B none (cxX4_init B ad) cX4_init K
section
variable {B : Nat} {ad : Nat → Nat} {K : xK} {L r : List Value} {σ : xW}
theorem eX4_init_0 : wX4_init B ad K 0 L r σ ↔ ∃ v, L[0]? = some v ∧ x_rfv v ∧ wX4_init B ad K 1 L (v :: r) σ := xr_aload_n dX4_init_0
theorem eX4_init_1 {v0 : Value} : wX4_init B ad K 1 L (v0 :: r) σ ↔ ((r.map fun v => v.category).sum ≤ 8 ∧ x_cl (x_obj) [v0] σ (fun v g => wX4_init B ad K 4 L (v.toList ++ r) g)) := xr_callI [v0] r dX4_init_1 rfl
theorem eX4_init_4 : wX4_init B ad K 4 L r σ ↔ ∃ v, L[0]? = some v ∧ x_rfv v ∧ wX4_init B ad K 5 L (v :: r) σ := xr_aload_n dX4_init_4
theorem eX4_init_5 : wX4_init B ad K 5 L r σ ↔ wX4_init B ad K 8 L (.int 400 :: r) σ := xr_sipush dX4_init_5 (by decide)
theorem eX4_init_8 {x : Int32} : wX4_init B ad K 8 L (.int x :: r) σ ↔ (¬ x.toInt < 0 ∧ x.toInt ≤ 60000000 ∧ wX4_init B ad K 11 L (.ref σ.2.1 :: r) (x_up σ.1 σ.2.1 (103, List.replicate x.toInt.toNat .null), σ.2.1 + 1, σ.2.2 + x.toInt.toNat)) := xr_anewarray (t := 103) dX4_init_8 rfl
theorem eX4_init_11 {v : Value} {a : Nat} : wX4_init B ad K 11 L (v :: .ref a :: r) σ ↔ ∃ fs, σ.1 a = some (4, fs) ∧ 0 < fs.length ∧ B ≤ a ∧ x_rfv v ∧ wX4_init B ad K 14 L r (x_up σ.1 a (4, fs.set 0 (v)), σ.2) := xr_put_a (t := 4) (j := 0) dX4_init_11 rfl (by decide)
theorem eX4_init_14 : wX4_init B ad K 14 L [] σ ↔ K none σ := xr_return dX4_init_14
end
abbrev wX4_look (B : Nat) (ad : Nat → Nat) (K : xK) : Nat → List Value → List Value → xW → Prop := x_WP B (some (.object "PageBuilder$Item")) (cxX4_look B ad) cX4_look K
section
variable {B : Nat} {ad : Nat → Nat} {K : xK} {L r : List Value} {σ : xW}
theorem eX4_look_0 : wX4_look B ad K 0 L r σ ↔ ∃ v, L[1]? = some (.int v) ∧ wX4_look B ad K 1 L (.int v :: r) σ := xr_iload_n dX4_look_0
theorem eX4_look_1 {x : Int32} : wX4_look B ad K 1 L (.int x :: r) σ ↔ (if x.toInt < 0 then wX4_look B ad K 30 L r σ else wX4_look B ad K 4 L r σ) := (xr_if_lt dX4_look_1 (by decide)).trans x_ite
theorem eX4_look_4 : wX4_look B ad K 4 L r σ ↔ ∃ v, L[1]? = some (.int v) ∧ wX4_look B ad K 5 L (.int v :: r) σ := xr_iload_n dX4_look_4
theorem eX4_look_5 : wX4_look B ad K 5 L r σ ↔ ∃ v, L[0]? = some v ∧ x_rfv v ∧ wX4_look B ad K 6 L (v :: r) σ := xr_aload_n dX4_look_5
theorem eX4_look_6 {a : Nat} : wX4_look B ad K 6 L (.ref a :: r) σ ↔ ∃ fs v, σ.1 a = some (4, fs) ∧ fs[2]? = some v ∧ wX4_look B ad K 9 L (v :: r) σ := xr_getfield (t := 4) (j := 2) dX4_look_6 rfl
theorem eX4_look_9 {x y : Int32} : wX4_look B ad K 9 L (.int y :: .int x :: r) σ ↔ (if x.toInt < y.toInt then wX4_look B ad K 12 L r σ else wX4_look B ad K 30 L r σ) := (xr_icmp_ge dX4_look_9 (by decide)).trans x_ite
theorem eX4_look_12 : wX4_look B ad K 12 L r σ ↔ ∃ v, L[0]? = some v ∧ x_rfv v ∧ wX4_look B ad K 13 L (v :: r) σ := xr_aload_n dX4_look_12
theorem eX4_look_13 {a : Nat} : wX4_look B ad K 13 L (.ref a :: r) σ ↔ ∃ fs v, σ.1 a = some (4, fs) ∧ fs[0]? = some v ∧ wX4_look B ad K 16 L (v :: r) σ := xr_getfield (t := 4) (j := 0) dX4_look_13 rfl
theorem eX4_look_16 : wX4_look B ad K 16 L r σ ↔ ∃ v, L[0]? = some v ∧ x_rfv v ∧ wX4_look B ad K 17 L (v :: r) σ := xr_aload_n dX4_look_16
theorem eX4_look_17 {a : Nat} : wX4_look B ad K 17 L (.ref a :: r) σ ↔ ∃ fs v, σ.1 a = some (4, fs) ∧ fs[1]? = some v ∧ wX4_look B ad K 20 L (v :: r) σ := xr_getfield (t := 4) (j := 1) dX4_look_17 rfl
theorem eX4_look_20 : wX4_look B ad K 20 L r σ ↔ ∃ v, L[1]? = some (.int v) ∧ wX4_look B ad K 21 L (.int v :: r) σ := xr_iload_n dX4_look_20
theorem eX4_look_21 {x y : Int32} : wX4_look B ad K 21 L (.int y :: .int x :: r) σ ↔ wX4_look B ad K 22 L (.int (x + y) :: r) σ := xr_iadd dX4_look_21
theorem eX4_look_22 : wX4_look B ad K 22 L r σ ↔ wX4_look B ad K 25 L (.int 400 :: r) σ := xr_sipush dX4_look_22 (by decide)
theorem eX4_look_25 {x y : Int32} : wX4_look B ad K 25 L (.int y :: .int x :: r) σ ↔ (¬ y = 0 ∧ wX4_look B ad K 26 L (.int (x - x / y * y) :: r) σ) := xr_irem dX4_look_25
theorem eX4_look_26 {a : Nat} {x : Int32} : wX4_look B ad K 26 L (.int x :: .ref a :: r) σ ↔ ∃ t V v, σ.1 a = some (t, V) ∧ (t = 103 ∨ t = 104 ∨ t = 105) ∧ x_ix x V = some v ∧ wX4_look B ad K 27 L (v :: r) σ := xr_aaload dX4_look_26
theorem eX4_look_27 : wX4_look B ad K 27 L r σ ↔ wX4_look B ad K 31 L r σ := xr_goto dX4_look_27 (by decide)
theorem eX4_look_30 : wX4_look B ad K 30 L r σ ↔ wX4_look B ad K 31 L (.null :: r) σ := xr_null dX4_look_30
theorem eX4_look_31 {v : Value} : wX4_look B ad K 31 L [v] σ ↔ (x_rfv v ∧ K (some v) σ) := xr_areturn dX4_look_31
end
abbrev wX4_addLast (B : Nat) (ad : Nat → Nat) (K : xK) : Nat → List Value → List Value → xW → Prop := x_WP B none (cxX4_addLast B ad) cX4_addLast K
section
variable {B : Nat} {ad : Nat → Nat} {K : xK} {L r : List Value} {σ : xW}
theorem eX4_addLast_0 : wX4_addLast B ad K 0 L r σ ↔ ∃ v, L[0]? = some v ∧ x_rfv v ∧ wX4_addLast B ad K 1 L (v :: r) σ := xr_aload_n dX4_addLast_0
theorem eX4_addLast_1 {a : Nat} : wX4_addLast B ad K 1 L (.ref a :: r) σ ↔ ∃ fs v, σ.1 a = some (4, fs) ∧ fs[2]? = some v ∧ wX4_addLast B ad K 4 L (v :: r) σ := xr_getfield (t := 4) (j := 2) dX4_addLast_1 rfl
theorem eX4_addLast_4 : wX4_addLast B ad K 4 L r σ ↔ wX4_addLast B ad K 7 L (.int 400 :: r) σ := xr_sipush dX4_addLast_4 (by decide)
theorem eX4_addLast_7 {x y : Int32} : wX4_addLast B ad K 7 L (.int y :: .int x :: r) σ ↔ (if x.toInt < y.toInt then wX4_addLast B ad K 10 L r σ else wX4_addLast B ad K 39 L r σ) := (xr_icmp_ge dX4_addLast_7 (by decide)).trans x_ite
theorem eX4_addLast_10 : wX4_addLast B ad K 10 L r σ ↔ ∃ v, L[0]? = some v ∧ x_rfv v ∧ wX4_addLast B ad K 11 L (v :: r) σ := xr_aload_n dX4_addLast_10
theorem eX4_addLast_11 {a : Nat} : wX4_addLast B ad K 11 L (.ref a :: r) σ ↔ ∃ fs v, σ.1 a = some (4, fs) ∧ fs[0]? = some v ∧ wX4_addLast B ad K 14 L (v :: r) σ := xr_getfield (t := 4) (j := 0) dX4_addLast_11 rfl
theorem eX4_addLast_14 : wX4_addLast B ad K 14 L r σ ↔ ∃ v, L[0]? = some v ∧ x_rfv v ∧ wX4_addLast B ad K 15 L (v :: r) σ := xr_aload_n dX4_addLast_14
theorem eX4_addLast_15 {a : Nat} : wX4_addLast B ad K 15 L (.ref a :: r) σ ↔ ∃ fs v, σ.1 a = some (4, fs) ∧ fs[1]? = some v ∧ wX4_addLast B ad K 18 L (v :: r) σ := xr_getfield (t := 4) (j := 1) dX4_addLast_15 rfl
theorem eX4_addLast_18 : wX4_addLast B ad K 18 L r σ ↔ ∃ v, L[0]? = some v ∧ x_rfv v ∧ wX4_addLast B ad K 19 L (v :: r) σ := xr_aload_n dX4_addLast_18
theorem eX4_addLast_19 {a : Nat} : wX4_addLast B ad K 19 L (.ref a :: r) σ ↔ ∃ fs v, σ.1 a = some (4, fs) ∧ fs[2]? = some v ∧ wX4_addLast B ad K 22 L (v :: r) σ := xr_getfield (t := 4) (j := 2) dX4_addLast_19 rfl
theorem eX4_addLast_22 {x y : Int32} : wX4_addLast B ad K 22 L (.int y :: .int x :: r) σ ↔ wX4_addLast B ad K 23 L (.int (x + y) :: r) σ := xr_iadd dX4_addLast_22
theorem eX4_addLast_23 : wX4_addLast B ad K 23 L r σ ↔ wX4_addLast B ad K 26 L (.int 400 :: r) σ := xr_sipush dX4_addLast_23 (by decide)
theorem eX4_addLast_26 {x y : Int32} : wX4_addLast B ad K 26 L (.int y :: .int x :: r) σ ↔ (¬ y = 0 ∧ wX4_addLast B ad K 27 L (.int (x - x / y * y) :: r) σ) := xr_irem dX4_addLast_26
theorem eX4_addLast_27 : wX4_addLast B ad K 27 L r σ ↔ ∃ v, L[1]? = some v ∧ x_rfv v ∧ wX4_addLast B ad K 28 L (v :: r) σ := xr_aload_n dX4_addLast_27
theorem eX4_addLast_28 {a x : Nat} {j : Int32} : wX4_addLast B ad K 28 L (.ref x :: .int j :: .ref a :: r) σ ↔ ∃ t V t2 fs, σ.1 a = some (t, V) ∧ σ.1 x = some (t2, fs) ∧ ((t = 103 ∧ t2 = 3) ∨ (t = 104 ∧ t2 = 2) ∨ (t = 105 ∧ t2 = 6)) ∧ (x_ix j V).isSome ∧ B ≤ a ∧ wX4_addLast B ad K 29 L r (x_up σ.1 a (t, V.set j.toInt.toNat (.ref x)), σ.2) := xr_aastore dX4_addLast_28
theorem eX4_addLast_29 : wX4_addLast B ad K 29 L r σ ↔ ∃ v, L[0]? = some v ∧ x_rfv v ∧ wX4_addLast B ad K 30 L (v :: r) σ := xr_aload_n dX4_addLast_29
theorem eX4_addLast_30 {v : Value} : wX4_addLast B ad K 30 L (v :: r) σ ↔ (v.category = 1 ∧ wX4_addLast B ad K 31 L (v :: v :: r) σ) := xr_dup dX4_addLast_30
theorem eX4_addLast_31 {a : Nat} : wX4_addLast B ad K 31 L (.ref a :: r) σ ↔ ∃ fs v, σ.1 a = some (4, fs) ∧ fs[2]? = some v ∧ wX4_addLast B ad K 34 L (v :: r) σ := xr_getfield (t := 4) (j := 2) dX4_addLast_31 rfl
theorem eX4_addLast_34 : wX4_addLast B ad K 34 L r σ ↔ wX4_addLast B ad K 35 L (.int 1 :: r) σ := xr_iconst dX4_addLast_34 (by decide)
theorem eX4_addLast_35 {x y : Int32} : wX4_addLast B ad K 35 L (.int y :: .int x :: r) σ ↔ wX4_addLast B ad K 36 L (.int (x + y) :: r) σ := xr_iadd dX4_addLast_35
theorem eX4_addLast_36 {x : Int32} {a : Nat} : wX4_addLast B ad K 36 L (.int x :: .ref a :: r) σ ↔ ∃ fs, σ.1 a = some (4, fs) ∧ 2 < fs.length ∧ B ≤ a ∧ wX4_addLast B ad K 39 L r (x_up σ.1 a (4, fs.set 2 (.int x)), σ.2) := xr_put_i (t := 4) (j := 2) dX4_addLast_36 rfl (by decide)
theorem eX4_addLast_39 : wX4_addLast B ad K 39 L [] σ ↔ K none σ := xr_return dX4_addLast_39
end
abbrev wX4_addFirst (B : Nat) (ad : Nat → Nat) (K : xK) : Nat → List Value → List Value → xW → Prop := x_WP B none (cxX4_addFirst B ad) cX4_addFirst K
section
variable {B : Nat} {ad : Nat → Nat} {K : xK} {L r : List Value} {σ : xW}
theorem eX4_addFirst_0 : wX4_addFirst B ad K 0 L r σ ↔ ∃ v, L[0]? = some v ∧ x_rfv v ∧ wX4_addFirst B ad K 1 L (v :: r) σ := xr_aload_n dX4_addFirst_0
theorem eX4_addFirst_1 {a : Nat} : wX4_addFirst B ad K 1 L (.ref a :: r) σ ↔ ∃ fs v, σ.1 a = some (4, fs) ∧ fs[2]? = some v ∧ wX4_addFirst B ad K 4 L (v :: r) σ := xr_getfield (t := 4) (j := 2) dX4_addFirst_1 rfl
theorem eX4_addFirst_4 : wX4_addFirst B ad K 4 L r σ ↔ wX4_addFirst B ad K 7 L (.int 400 :: r) σ := xr_sipush dX4_addFirst_4 (by decide)
theorem eX4_addFirst_7 {x y : Int32} : wX4_addFirst B ad K 7 L (.int y :: .int x :: r) σ ↔ (if x.toInt < y.toInt then wX4_addFirst B ad K 10 L r σ else wX4_addFirst B ad K 48 L r σ) := (xr_icmp_ge dX4_addFirst_7 (by decide)).trans x_ite
theorem eX4_addFirst_10 : wX4_addFirst B ad K 10 L r σ ↔ ∃ v, L[0]? = some v ∧ x_rfv v ∧ wX4_addFirst B ad K 11 L (v :: r) σ := xr_aload_n dX4_addFirst_10
theorem eX4_addFirst_11 : wX4_addFirst B ad K 11 L r σ ↔ ∃ v, L[0]? = some v ∧ x_rfv v ∧ wX4_addFirst B ad K 12 L (v :: r) σ := xr_aload_n dX4_addFirst_11
theorem eX4_addFirst_12 {a : Nat} : wX4_addFirst B ad K 12 L (.ref a :: r) σ ↔ ∃ fs v, σ.1 a = some (4, fs) ∧ fs[1]? = some v ∧ wX4_addFirst B ad K 15 L (v :: r) σ := xr_getfield (t := 4) (j := 1) dX4_addFirst_12 rfl
theorem eX4_addFirst_15 : wX4_addFirst B ad K 15 L r σ ↔ wX4_addFirst B ad K 18 L (.int 400 :: r) σ := xr_sipush dX4_addFirst_15 (by decide)
theorem eX4_addFirst_18 {x y : Int32} : wX4_addFirst B ad K 18 L (.int y :: .int x :: r) σ ↔ wX4_addFirst B ad K 19 L (.int (x + y) :: r) σ := xr_iadd dX4_addFirst_18
theorem eX4_addFirst_19 : wX4_addFirst B ad K 19 L r σ ↔ wX4_addFirst B ad K 20 L (.int 1 :: r) σ := xr_iconst dX4_addFirst_19 (by decide)
theorem eX4_addFirst_20 {x y : Int32} : wX4_addFirst B ad K 20 L (.int y :: .int x :: r) σ ↔ wX4_addFirst B ad K 21 L (.int (x - y) :: r) σ := xr_isub dX4_addFirst_20
theorem eX4_addFirst_21 : wX4_addFirst B ad K 21 L r σ ↔ wX4_addFirst B ad K 24 L (.int 400 :: r) σ := xr_sipush dX4_addFirst_21 (by decide)
theorem eX4_addFirst_24 {x y : Int32} : wX4_addFirst B ad K 24 L (.int y :: .int x :: r) σ ↔ (¬ y = 0 ∧ wX4_addFirst B ad K 25 L (.int (x - x / y * y) :: r) σ) := xr_irem dX4_addFirst_24
theorem eX4_addFirst_25 {x : Int32} {a : Nat} : wX4_addFirst B ad K 25 L (.int x :: .ref a :: r) σ ↔ ∃ fs, σ.1 a = some (4, fs) ∧ 1 < fs.length ∧ B ≤ a ∧ wX4_addFirst B ad K 28 L r (x_up σ.1 a (4, fs.set 1 (.int x)), σ.2) := xr_put_i (t := 4) (j := 1) dX4_addFirst_25 rfl (by decide)
theorem eX4_addFirst_28 : wX4_addFirst B ad K 28 L r σ ↔ ∃ v, L[0]? = some v ∧ x_rfv v ∧ wX4_addFirst B ad K 29 L (v :: r) σ := xr_aload_n dX4_addFirst_28
theorem eX4_addFirst_29 {a : Nat} : wX4_addFirst B ad K 29 L (.ref a :: r) σ ↔ ∃ fs v, σ.1 a = some (4, fs) ∧ fs[0]? = some v ∧ wX4_addFirst B ad K 32 L (v :: r) σ := xr_getfield (t := 4) (j := 0) dX4_addFirst_29 rfl
theorem eX4_addFirst_32 : wX4_addFirst B ad K 32 L r σ ↔ ∃ v, L[0]? = some v ∧ x_rfv v ∧ wX4_addFirst B ad K 33 L (v :: r) σ := xr_aload_n dX4_addFirst_32
theorem eX4_addFirst_33 {a : Nat} : wX4_addFirst B ad K 33 L (.ref a :: r) σ ↔ ∃ fs v, σ.1 a = some (4, fs) ∧ fs[1]? = some v ∧ wX4_addFirst B ad K 36 L (v :: r) σ := xr_getfield (t := 4) (j := 1) dX4_addFirst_33 rfl
theorem eX4_addFirst_36 : wX4_addFirst B ad K 36 L r σ ↔ ∃ v, L[1]? = some v ∧ x_rfv v ∧ wX4_addFirst B ad K 37 L (v :: r) σ := xr_aload_n dX4_addFirst_36
theorem eX4_addFirst_37 {a x : Nat} {j : Int32} : wX4_addFirst B ad K 37 L (.ref x :: .int j :: .ref a :: r) σ ↔ ∃ t V t2 fs, σ.1 a = some (t, V) ∧ σ.1 x = some (t2, fs) ∧ ((t = 103 ∧ t2 = 3) ∨ (t = 104 ∧ t2 = 2) ∨ (t = 105 ∧ t2 = 6)) ∧ (x_ix j V).isSome ∧ B ≤ a ∧ wX4_addFirst B ad K 38 L r (x_up σ.1 a (t, V.set j.toInt.toNat (.ref x)), σ.2) := xr_aastore dX4_addFirst_37
theorem eX4_addFirst_38 : wX4_addFirst B ad K 38 L r σ ↔ ∃ v, L[0]? = some v ∧ x_rfv v ∧ wX4_addFirst B ad K 39 L (v :: r) σ := xr_aload_n dX4_addFirst_38
theorem eX4_addFirst_39 {v : Value} : wX4_addFirst B ad K 39 L (v :: r) σ ↔ (v.category = 1 ∧ wX4_addFirst B ad K 40 L (v :: v :: r) σ) := xr_dup dX4_addFirst_39
theorem eX4_addFirst_40 {a : Nat} : wX4_addFirst B ad K 40 L (.ref a :: r) σ ↔ ∃ fs v, σ.1 a = some (4, fs) ∧ fs[2]? = some v ∧ wX4_addFirst B ad K 43 L (v :: r) σ := xr_getfield (t := 4) (j := 2) dX4_addFirst_40 rfl
theorem eX4_addFirst_43 : wX4_addFirst B ad K 43 L r σ ↔ wX4_addFirst B ad K 44 L (.int 1 :: r) σ := xr_iconst dX4_addFirst_43 (by decide)
theorem eX4_addFirst_44 {x y : Int32} : wX4_addFirst B ad K 44 L (.int y :: .int x :: r) σ ↔ wX4_addFirst B ad K 45 L (.int (x + y) :: r) σ := xr_iadd dX4_addFirst_44
theorem eX4_addFirst_45 {x : Int32} {a : Nat} : wX4_addFirst B ad K 45 L (.int x :: .ref a :: r) σ ↔ ∃ fs, σ.1 a = some (4, fs) ∧ 2 < fs.length ∧ B ≤ a ∧ wX4_addFirst B ad K 48 L r (x_up σ.1 a (4, fs.set 2 (.int x)), σ.2) := xr_put_i (t := 4) (j := 2) dX4_addFirst_45 rfl (by decide)
theorem eX4_addFirst_48 : wX4_addFirst B ad K 48 L [] σ ↔ K none σ := xr_return dX4_addFirst_48
end
abbrev wX4_takeFirst (B : Nat) (ad : Nat → Nat) (K : xK) : Nat → List Value → List Value → xW → Prop := x_WP B (some (.object "PageBuilder$Item")) (cxX4_takeFirst B ad) cX4_takeFirst K
section
variable {B : Nat} {ad : Nat → Nat} {K : xK} {L r : List Value} {σ : xW}
theorem eX4_takeFirst_0 : wX4_takeFirst B ad K 0 L r σ ↔ ∃ v, L[0]? = some v ∧ x_rfv v ∧ wX4_takeFirst B ad K 1 L (v :: r) σ := xr_aload_n dX4_takeFirst_0
theorem eX4_takeFirst_1 : wX4_takeFirst B ad K 1 L r σ ↔ wX4_takeFirst B ad K 2 L (.int 0 :: r) σ := xr_iconst dX4_takeFirst_1 (by decide)
theorem eX4_takeFirst_2 {v0 v1 : Value} : wX4_takeFirst B ad K 2 L (v1 :: v0 :: r) σ ↔ ((r.map fun v => v.category).sum ≤ 8 ∧ x_cl (x_v 4 (eX4_look B ad)) [v0, v1] σ (fun v g => wX4_takeFirst B ad K 5 L (v.toList ++ r) g)) := xr_callV [v0, v1] r dX4_takeFirst_2 rfl
theorem eX4_takeFirst_5 {v : Value} : wX4_takeFirst B ad K 5 L (v :: r) σ ↔ (x_rfv v ∧ 1 < L.length ∧ x_nl L 1 ∧ wX4_takeFirst B ad K 6 (L.set 1 v) r σ) := xr_astore_n dX4_takeFirst_5
theorem eX4_takeFirst_6 : wX4_takeFirst B ad K 6 L r σ ↔ ∃ v, L[1]? = some v ∧ x_rfv v ∧ wX4_takeFirst B ad K 7 L (v :: r) σ := xr_aload_n dX4_takeFirst_6
theorem eX4_takeFirst_7 {v : Value} : wX4_takeFirst B ad K 7 L (v :: r) σ ↔ (x_rfv v ∧ (if v = .null then wX4_takeFirst B ad K 34 L r σ else wX4_takeFirst B ad K 10 L r σ)) := (xr_ifnull dX4_takeFirst_7 (by decide)).trans (and_congr_right fun _ => x_ite)
theorem eX4_takeFirst_10 : wX4_takeFirst B ad K 10 L r σ ↔ ∃ v, L[0]? = some v ∧ x_rfv v ∧ wX4_takeFirst B ad K 11 L (v :: r) σ := xr_aload_n dX4_takeFirst_10
theorem eX4_takeFirst_11 : wX4_takeFirst B ad K 11 L r σ ↔ ∃ v, L[0]? = some v ∧ x_rfv v ∧ wX4_takeFirst B ad K 12 L (v :: r) σ := xr_aload_n dX4_takeFirst_11
theorem eX4_takeFirst_12 {a : Nat} : wX4_takeFirst B ad K 12 L (.ref a :: r) σ ↔ ∃ fs v, σ.1 a = some (4, fs) ∧ fs[1]? = some v ∧ wX4_takeFirst B ad K 15 L (v :: r) σ := xr_getfield (t := 4) (j := 1) dX4_takeFirst_12 rfl
theorem eX4_takeFirst_15 : wX4_takeFirst B ad K 15 L r σ ↔ wX4_takeFirst B ad K 16 L (.int 1 :: r) σ := xr_iconst dX4_takeFirst_15 (by decide)
theorem eX4_takeFirst_16 {x y : Int32} : wX4_takeFirst B ad K 16 L (.int y :: .int x :: r) σ ↔ wX4_takeFirst B ad K 17 L (.int (x + y) :: r) σ := xr_iadd dX4_takeFirst_16
theorem eX4_takeFirst_17 : wX4_takeFirst B ad K 17 L r σ ↔ wX4_takeFirst B ad K 20 L (.int 400 :: r) σ := xr_sipush dX4_takeFirst_17 (by decide)
theorem eX4_takeFirst_20 {x y : Int32} : wX4_takeFirst B ad K 20 L (.int y :: .int x :: r) σ ↔ (¬ y = 0 ∧ wX4_takeFirst B ad K 21 L (.int (x - x / y * y) :: r) σ) := xr_irem dX4_takeFirst_20
theorem eX4_takeFirst_21 {x : Int32} {a : Nat} : wX4_takeFirst B ad K 21 L (.int x :: .ref a :: r) σ ↔ ∃ fs, σ.1 a = some (4, fs) ∧ 1 < fs.length ∧ B ≤ a ∧ wX4_takeFirst B ad K 24 L r (x_up σ.1 a (4, fs.set 1 (.int x)), σ.2) := xr_put_i (t := 4) (j := 1) dX4_takeFirst_21 rfl (by decide)
theorem eX4_takeFirst_24 : wX4_takeFirst B ad K 24 L r σ ↔ ∃ v, L[0]? = some v ∧ x_rfv v ∧ wX4_takeFirst B ad K 25 L (v :: r) σ := xr_aload_n dX4_takeFirst_24
theorem eX4_takeFirst_25 {v : Value} : wX4_takeFirst B ad K 25 L (v :: r) σ ↔ (v.category = 1 ∧ wX4_takeFirst B ad K 26 L (v :: v :: r) σ) := xr_dup dX4_takeFirst_25
theorem eX4_takeFirst_26 {a : Nat} : wX4_takeFirst B ad K 26 L (.ref a :: r) σ ↔ ∃ fs v, σ.1 a = some (4, fs) ∧ fs[2]? = some v ∧ wX4_takeFirst B ad K 29 L (v :: r) σ := xr_getfield (t := 4) (j := 2) dX4_takeFirst_26 rfl
theorem eX4_takeFirst_29 : wX4_takeFirst B ad K 29 L r σ ↔ wX4_takeFirst B ad K 30 L (.int 1 :: r) σ := xr_iconst dX4_takeFirst_29 (by decide)
theorem eX4_takeFirst_30 {x y : Int32} : wX4_takeFirst B ad K 30 L (.int y :: .int x :: r) σ ↔ wX4_takeFirst B ad K 31 L (.int (x - y) :: r) σ := xr_isub dX4_takeFirst_30
theorem eX4_takeFirst_31 {x : Int32} {a : Nat} : wX4_takeFirst B ad K 31 L (.int x :: .ref a :: r) σ ↔ ∃ fs, σ.1 a = some (4, fs) ∧ 2 < fs.length ∧ B ≤ a ∧ wX4_takeFirst B ad K 34 L r (x_up σ.1 a (4, fs.set 2 (.int x)), σ.2) := xr_put_i (t := 4) (j := 2) dX4_takeFirst_31 rfl (by decide)
theorem eX4_takeFirst_34 : wX4_takeFirst B ad K 34 L r σ ↔ ∃ v, L[1]? = some v ∧ x_rfv v ∧ wX4_takeFirst B ad K 35 L (v :: r) σ := xr_aload_n dX4_takeFirst_34
theorem eX4_takeFirst_35 {v : Value} : wX4_takeFirst B ad K 35 L [v] σ ↔ (x_rfv v ∧ K (some v) σ) := xr_areturn dX4_takeFirst_35
end
abbrev wX5_entry (B : Nat) (ad : Nat → Nat) (K : xK) : Nat → List Value → List Value → xW → Prop := x_WP B (some .long) (cxX5_entry B ad) cX5_entry K
section
variable {B : Nat} {ad : Nat → Nat} {K : xK} {L r : List Value} {σ : xW}
theorem eX5_entry_0 : wX5_entry B ad K 0 L r σ ↔ ∃ v, L[1]? = some (.int v) ∧ wX5_entry B ad K 1 L (.int v :: r) σ := xr_iload_n dX5_entry_0
theorem eX5_entry_48 : wX5_entry B ad K 48 L r σ ↔ ∃ v, L[0]? = some v ∧ x_rfv v ∧ wX5_entry B ad K 49 L (v :: r) σ := xr_aload_n dX5_entry_48
theorem eX5_entry_49 {a : Nat} : wX5_entry B ad K 49 L (.ref a :: r) σ ↔ ∃ fs v, σ.1 a = some (5, fs) ∧ fs[0]? = some v ∧ wX5_entry B ad K 52 L (v :: r) σ := xr_getfield (t := 5) (j := 0) dX5_entry_49 rfl
theorem eX5_entry_52 {x : Int64} : wX5_entry B ad K 52 L [.long x] σ ↔ K (some (.long x)) σ := xr_lreturn dX5_entry_52
theorem eX5_entry_53 : wX5_entry B ad K 53 L r σ ↔ ∃ v, L[0]? = some v ∧ x_rfv v ∧ wX5_entry B ad K 54 L (v :: r) σ := xr_aload_n dX5_entry_53
theorem eX5_entry_54 {a : Nat} : wX5_entry B ad K 54 L (.ref a :: r) σ ↔ ∃ fs v, σ.1 a = some (5, fs) ∧ fs[1]? = some v ∧ wX5_entry B ad K 57 L (v :: r) σ := xr_getfield (t := 5) (j := 1) dX5_entry_54 rfl
theorem eX5_entry_57 {x : Int64} : wX5_entry B ad K 57 L [.long x] σ ↔ K (some (.long x)) σ := xr_lreturn dX5_entry_57
theorem eX5_entry_58 : wX5_entry B ad K 58 L r σ ↔ ∃ v, L[0]? = some v ∧ x_rfv v ∧ wX5_entry B ad K 59 L (v :: r) σ := xr_aload_n dX5_entry_58
theorem eX5_entry_59 {a : Nat} : wX5_entry B ad K 59 L (.ref a :: r) σ ↔ ∃ fs v, σ.1 a = some (5, fs) ∧ fs[2]? = some v ∧ wX5_entry B ad K 62 L (v :: r) σ := xr_getfield (t := 5) (j := 2) dX5_entry_59 rfl
theorem eX5_entry_62 {x : Int64} : wX5_entry B ad K 62 L [.long x] σ ↔ K (some (.long x)) σ := xr_lreturn dX5_entry_62
theorem eX5_entry_63 : wX5_entry B ad K 63 L r σ ↔ ∃ v, L[0]? = some v ∧ x_rfv v ∧ wX5_entry B ad K 64 L (v :: r) σ := xr_aload_n dX5_entry_63
theorem eX5_entry_64 {a : Nat} : wX5_entry B ad K 64 L (.ref a :: r) σ ↔ ∃ fs v, σ.1 a = some (5, fs) ∧ fs[4]? = some v ∧ wX5_entry B ad K 67 L (v :: r) σ := xr_getfield (t := 5) (j := 4) dX5_entry_64 rfl
theorem eX5_entry_67 : wX5_entry B ad K 67 L r σ ↔ ∃ v, L[1]? = some (.int v) ∧ wX5_entry B ad K 68 L (.int v :: r) σ := xr_iload_n dX5_entry_67
theorem eX5_entry_68 : wX5_entry B ad K 68 L r σ ↔ wX5_entry B ad K 69 L (.int 4 :: r) σ := xr_iconst dX5_entry_68 (by decide)
theorem eX5_entry_69 {x y : Int32} : wX5_entry B ad K 69 L (.int y :: .int x :: r) σ ↔ wX5_entry B ad K 70 L (.int (x - y) :: r) σ := xr_isub dX5_entry_69
theorem eX5_entry_70 {a : Nat} {x : Int32} : wX5_entry B ad K 70 L (.int x :: .ref a :: r) σ ↔ ∃ V v, σ.1 a = some (101, V) ∧ x_ix x V = some v ∧ wX5_entry B ad K 71 L (v :: r) σ := xr_laload dX5_entry_70
theorem eX5_entry_71 {x : Int64} : wX5_entry B ad K 71 L [.long x] σ ↔ K (some (.long x)) σ := xr_lreturn dX5_entry_71
theorem eX5_entry_72 : wX5_entry B ad K 72 L r σ ↔ ∃ v, L[0]? = some v ∧ x_rfv v ∧ wX5_entry B ad K 73 L (v :: r) σ := xr_aload_n dX5_entry_72
theorem eX5_entry_73 {a : Nat} : wX5_entry B ad K 73 L (.ref a :: r) σ ↔ ∃ fs v, σ.1 a = some (5, fs) ∧ fs[3]? = some v ∧ wX5_entry B ad K 76 L (v :: r) σ := xr_getfield (t := 5) (j := 3) dX5_entry_73 rfl
theorem eX5_entry_76 {x : Int64} : wX5_entry B ad K 76 L [.long x] σ ↔ K (some (.long x)) σ := xr_lreturn dX5_entry_76
theorem eX5_entry_77 : wX5_entry B ad K 77 L r σ ↔ wX5_entry B ad K 80 L (.long (-1) :: r) σ := xr_ldc2 dX5_entry_77 rfl
theorem eX5_entry_80 {x : Int64} : wX5_entry B ad K 80 L [.long x] σ ↔ K (some (.long x)) σ := xr_lreturn dX5_entry_80
end
abbrev wX6_init (B : Nat) (ad : Nat → Nat) (K : xK) : Nat → List Value → List Value → xW → Prop := x_WP B none (cxX6_init B ad) cX6_init K
section
variable {B : Nat} {ad : Nat → Nat} {K : xK} {L r : List Value} {σ : xW}
theorem eX6_init_0 : wX6_init B ad K 0 L r σ ↔ ∃ v, L[0]? = some v ∧ x_rfv v ∧ wX6_init B ad K 1 L (v :: r) σ := xr_aload_n dX6_init_0
theorem eX6_init_1 {v0 : Value} : wX6_init B ad K 1 L (v0 :: r) σ ↔ ((r.map fun v => v.category).sum ≤ 8 ∧ x_cl (x_obj) [v0] σ (fun v g => wX6_init B ad K 4 L (v.toList ++ r) g)) := xr_callI [v0] r dX6_init_1 rfl
theorem eX6_init_4 : wX6_init B ad K 4 L r σ ↔ ∃ v, L[0]? = some v ∧ x_rfv v ∧ wX6_init B ad K 5 L (v :: r) σ := xr_aload_n dX6_init_4
theorem eX6_init_5 : wX6_init B ad K 5 L r σ ↔ wX6_init B ad K 8 L (.ref σ.2.1 :: r) (x_up σ.1 σ.2.1 (5, [.long 0, .long 0, .long 0, .long 0, .null, .null]), σ.2.1 + 1, σ.2.2 + 6) := xr_new (t := 5) dX6_init_5 rfl
theorem eX6_init_8 {v : Value} : wX6_init B ad K 8 L (v :: r) σ ↔ (v.category = 1 ∧ wX6_init B ad K 9 L (v :: v :: r) σ) := xr_dup dX6_init_8
theorem eX6_init_9 {v0 : Value} : wX6_init B ad K 9 L (v0 :: r) σ ↔ ((r.map fun v => v.category).sum ≤ 8 ∧ x_cl (x_n1 (eX5_init B ad)) [v0] σ (fun v g => wX6_init B ad K 12 L (v.toList ++ r) g)) := xr_callI [v0] r dX6_init_9 rfl
theorem eX6_init_12 {v : Value} {a : Nat} : wX6_init B ad K 12 L (v :: .ref a :: r) σ ↔ ∃ fs, σ.1 a = some (6, fs) ∧ 2 < fs.length ∧ B ≤ a ∧ x_rfv v ∧ wX6_init B ad K 15 L r (x_up σ.1 a (6, fs.set 2 (v)), σ.2) := xr_put_o (t := 6) (j := 2) dX6_init_12 rfl (by decide)
theorem eX6_init_15 : wX6_init B ad K 15 L r σ ↔ ∃ v, L[1]? = some v ∧ x_rfv v ∧ wX6_init B ad K 16 L (v :: r) σ := xr_aload_n dX6_init_15
theorem eX6_init_16 {a : Nat} : wX6_init B ad K 16 L (.ref a :: r) σ ↔ ∃ fs v, σ.1 a = some (1, fs) ∧ fs[11]? = some v ∧ wX6_init B ad K 19 L (v :: r) σ := xr_getfield (t := 1) (j := 11) dX6_init_16 rfl
theorem eX6_init_19 {v : Int32} : wX6_init B ad K 19 L (.int v :: r) σ ↔ (3 < L.length ∧ x_nl L 3 ∧ wX6_init B ad K 20 (L.set 3 (.int v)) r σ) := xr_istore_n dX6_init_19
theorem eX6_init_20 : wX6_init B ad K 20 L r σ ↔ ∃ v, L[0]? = some v ∧ x_rfv v ∧ wX6_init B ad K 21 L (v :: r) σ := xr_aload_n dX6_init_20
theorem eX6_init_21 : wX6_init B ad K 21 L r σ ↔ ∃ v, L[3]? = some (.int v) ∧ wX6_init B ad K 22 L (.int v :: r) σ := xr_iload_n dX6_init_21
theorem eX6_init_22 {x : Int32} : wX6_init B ad K 22 L (.int x :: r) σ ↔ (¬ x.toInt < 0 ∧ x.toInt ≤ 60000000 ∧ wX6_init B ad K 24 L (.ref σ.2.1 :: r) (x_up σ.1 σ.2.1 (100, List.replicate x.toInt.toNat (.int 0)), σ.2.1 + 1, σ.2.2 + x.toInt.toNat)) := xr_newarray (t := 100) dX6_init_22 rfl
theorem eX6_init_24 {v : Value} {a : Nat} : wX6_init B ad K 24 L (v :: .ref a :: r) σ ↔ ∃ fs, σ.1 a = some (6, fs) ∧ 0 < fs.length ∧ B ≤ a ∧ x_rfv v ∧ wX6_init B ad K 27 L r (x_up σ.1 a (6, fs.set 0 (v)), σ.2) := xr_put_a (t := 6) (j := 0) dX6_init_24 rfl (by decide)
theorem eX6_init_27 : wX6_init B ad K 27 L r σ ↔ ∃ v, L[0]? = some v ∧ x_rfv v ∧ wX6_init B ad K 28 L (v :: r) σ := xr_aload_n dX6_init_27
theorem eX6_init_28 : wX6_init B ad K 28 L r σ ↔ ∃ v, L[3]? = some (.int v) ∧ wX6_init B ad K 29 L (.int v :: r) σ := xr_iload_n dX6_init_28
theorem eX6_init_29 {x : Int32} : wX6_init B ad K 29 L (.int x :: r) σ ↔ (¬ x.toInt < 0 ∧ x.toInt ≤ 60000000 ∧ wX6_init B ad K 31 L (.ref σ.2.1 :: r) (x_up σ.1 σ.2.1 (100, List.replicate x.toInt.toNat (.int 0)), σ.2.1 + 1, σ.2.2 + x.toInt.toNat)) := xr_newarray (t := 100) dX6_init_29 rfl
theorem eX6_init_31 {v : Value} {a : Nat} : wX6_init B ad K 31 L (v :: .ref a :: r) σ ↔ ∃ fs, σ.1 a = some (6, fs) ∧ 1 < fs.length ∧ B ≤ a ∧ x_rfv v ∧ wX6_init B ad K 34 L r (x_up σ.1 a (6, fs.set 1 (v)), σ.2) := xr_put_a (t := 6) (j := 1) dX6_init_31 rfl (by decide)
theorem eX6_init_34 : wX6_init B ad K 34 L r σ ↔ ∃ v, L[2]? = some (.int v) ∧ wX6_init B ad K 35 L (.int v :: r) σ := xr_iload_n dX6_init_34
theorem eX6_init_35 {v : Int32} : wX6_init B ad K 35 L (.int v :: r) σ ↔ (4 < L.length ∧ x_nl L 4 ∧ wX6_init B ad K 37 (L.set 4 (.int v)) r σ) := xr_istore dX6_init_35
theorem eX6_init_37 : wX6_init B ad K 37 L r σ ↔ ∃ v, L[2]? = some (.int v) ∧ wX6_init B ad K 38 L (.int v :: r) σ := xr_iload_n dX6_init_37
theorem eX6_init_38 {v : Int32} : wX6_init B ad K 38 L (.int v :: r) σ ↔ (5 < L.length ∧ x_nl L 5 ∧ wX6_init B ad K 40 (L.set 5 (.int v)) r σ) := xr_istore dX6_init_38
theorem eX6_init_40 : wX6_init B ad K 40 L r σ ↔ wX6_init B ad K 41 L (.int 0 :: r) σ := xr_iconst dX6_init_40 (by decide)
theorem eX6_init_41 {v : Int32} : wX6_init B ad K 41 L (.int v :: r) σ ↔ (6 < L.length ∧ x_nl L 6 ∧ wX6_init B ad K 43 (L.set 6 (.int v)) r σ) := xr_istore dX6_init_41
theorem eX6_init_43 : wX6_init B ad K 43 L r σ ↔ wX6_init B ad K 44 L (.int 0 :: r) σ := xr_iconst dX6_init_43 (by decide)
theorem eX6_init_44 {v : Int32} : wX6_init B ad K 44 L (.int v :: r) σ ↔ (7 < L.length ∧ x_nl L 7 ∧ wX6_init B ad K 46 (L.set 7 (.int v)) r σ) := xr_istore dX6_init_44
theorem eX6_init_46 : wX6_init B ad K 46 L r σ ↔ ∃ v, L[7]? = some (.int v) ∧ wX6_init B ad K 48 L (.int v :: r) σ := xr_iload dX6_init_46
theorem eX6_init_48 : wX6_init B ad K 48 L r σ ↔ ∃ v, L[3]? = some (.int v) ∧ wX6_init B ad K 49 L (.int v :: r) σ := xr_iload_n dX6_init_48
theorem eX6_init_49 {x y : Int32} : wX6_init B ad K 49 L (.int y :: .int x :: r) σ ↔ (if x.toInt < y.toInt then wX6_init B ad K 52 L r σ else wX6_init B ad K 131 L r σ) := (xr_icmp_ge dX6_init_49 (by decide)).trans x_ite
theorem eX6_init_52 : wX6_init B ad K 52 L r σ ↔ ∃ v, L[1]? = some v ∧ x_rfv v ∧ wX6_init B ad K 53 L (v :: r) σ := xr_aload_n dX6_init_52
theorem eX6_init_53 {a : Nat} : wX6_init B ad K 53 L (.ref a :: r) σ ↔ ∃ fs v, σ.1 a = some (1, fs) ∧ fs[0]? = some v ∧ wX6_init B ad K 56 L (v :: r) σ := xr_getfield (t := 1) (j := 0) dX6_init_53 rfl
theorem eX6_init_56 : wX6_init B ad K 56 L r σ ↔ ∃ v, L[7]? = some (.int v) ∧ wX6_init B ad K 58 L (.int v :: r) σ := xr_iload dX6_init_56
theorem eX6_init_58 {a : Nat} {x : Int32} : wX6_init B ad K 58 L (.int x :: .ref a :: r) σ ↔ ∃ t V v, σ.1 a = some (t, V) ∧ (t = 103 ∨ t = 104 ∨ t = 105) ∧ x_ix x V = some v ∧ wX6_init B ad K 59 L (v :: r) σ := xr_aaload dX6_init_58
theorem eX6_init_59 {v : Value} : wX6_init B ad K 59 L (v :: r) σ ↔ (x_rfv v ∧ 8 < L.length ∧ x_nl L 8 ∧ wX6_init B ad K 61 (L.set 8 v) r σ) := xr_astore dX6_init_59
theorem eX6_init_61 : wX6_init B ad K 61 L r σ ↔ ∃ v, L[0]? = some v ∧ x_rfv v ∧ wX6_init B ad K 62 L (v :: r) σ := xr_aload_n dX6_init_61
theorem eX6_init_62 {a : Nat} : wX6_init B ad K 62 L (.ref a :: r) σ ↔ ∃ fs v, σ.1 a = some (6, fs) ∧ fs[0]? = some v ∧ wX6_init B ad K 65 L (v :: r) σ := xr_getfield (t := 6) (j := 0) dX6_init_62 rfl
theorem eX6_init_65 : wX6_init B ad K 65 L r σ ↔ ∃ v, L[7]? = some (.int v) ∧ wX6_init B ad K 67 L (.int v :: r) σ := xr_iload dX6_init_65
theorem eX6_init_67 : wX6_init B ad K 67 L r σ ↔ ∃ v, L[8]? = some v ∧ x_rfv v ∧ wX6_init B ad K 69 L (v :: r) σ := xr_aload dX6_init_67
theorem eX6_init_69 {a : Nat} : wX6_init B ad K 69 L (.ref a :: r) σ ↔ ∃ fs v, σ.1 a = some (3, fs) ∧ fs[0]? = some v ∧ wX6_init B ad K 72 L (v :: r) σ := xr_getfield (t := 3) (j := 0) dX6_init_69 rfl
theorem eX6_init_72 {a : Nat} {j : Int32} {x : Int32} : wX6_init B ad K 72 L (.int x :: .int j :: .ref a :: r) σ ↔ ∃ V, σ.1 a = some (100, V) ∧ (x_ix j V).isSome ∧ B ≤ a ∧ wX6_init B ad K 73 L r (x_up σ.1 a (100, V.set j.toInt.toNat (.int x)), σ.2) := xr_iastore dX6_init_72
theorem eX6_init_73 : wX6_init B ad K 73 L r σ ↔ ∃ v, L[0]? = some v ∧ x_rfv v ∧ wX6_init B ad K 74 L (v :: r) σ := xr_aload_n dX6_init_73
theorem eX6_init_74 {a : Nat} : wX6_init B ad K 74 L (.ref a :: r) σ ↔ ∃ fs v, σ.1 a = some (6, fs) ∧ fs[1]? = some v ∧ wX6_init B ad K 77 L (v :: r) σ := xr_getfield (t := 6) (j := 1) dX6_init_74 rfl
theorem eX6_init_77 : wX6_init B ad K 77 L r σ ↔ ∃ v, L[7]? = some (.int v) ∧ wX6_init B ad K 79 L (.int v :: r) σ := xr_iload dX6_init_77
theorem eX6_init_79 : wX6_init B ad K 79 L r σ ↔ ∃ v, L[1]? = some v ∧ x_rfv v ∧ wX6_init B ad K 80 L (v :: r) σ := xr_aload_n dX6_init_79
theorem eX6_init_80 {a : Nat} : wX6_init B ad K 80 L (.ref a :: r) σ ↔ ∃ fs v, σ.1 a = some (1, fs) ∧ fs[1]? = some v ∧ wX6_init B ad K 83 L (v :: r) σ := xr_getfield (t := 1) (j := 1) dX6_init_80 rfl
theorem eX6_init_83 : wX6_init B ad K 83 L r σ ↔ ∃ v, L[7]? = some (.int v) ∧ wX6_init B ad K 85 L (.int v :: r) σ := xr_iload dX6_init_83
theorem eX6_init_85 {a : Nat} {x : Int32} : wX6_init B ad K 85 L (.int x :: .ref a :: r) σ ↔ ∃ t V v, σ.1 a = some (t, V) ∧ (t = 100 ∨ t = 106) ∧ x_ix x V = some v ∧ wX6_init B ad K 86 L (v :: r) σ := xr_iaload dX6_init_85
theorem eX6_init_86 {a : Nat} {j : Int32} {x : Int32} : wX6_init B ad K 86 L (.int x :: .int j :: .ref a :: r) σ ↔ ∃ V, σ.1 a = some (100, V) ∧ (x_ix j V).isSome ∧ B ≤ a ∧ wX6_init B ad K 87 L r (x_up σ.1 a (100, V.set j.toInt.toNat (.int x)), σ.2) := xr_iastore dX6_init_86
theorem eX6_init_87 : wX6_init B ad K 87 L r σ ↔ ∃ v, L[8]? = some v ∧ x_rfv v ∧ wX6_init B ad K 89 L (v :: r) σ := xr_aload dX6_init_87
theorem eX6_init_89 {a : Nat} : wX6_init B ad K 89 L (.ref a :: r) σ ↔ ∃ fs v, σ.1 a = some (3, fs) ∧ fs[1]? = some v ∧ wX6_init B ad K 92 L (v :: r) σ := xr_getfield (t := 3) (j := 1) dX6_init_89 rfl
theorem eX6_init_92 : wX6_init B ad K 92 L r σ ↔ wX6_init B ad K 95 L (.ref (ad 5) :: r) σ := xr_gets dX6_init_92 rfl
theorem eX6_init_95 {v u : Value} : wX6_init B ad K 95 L (u :: v :: r) σ ↔ (x_rfv v ∧ x_rfv u ∧ (if v = u then wX6_init B ad K 98 L r σ else wX6_init B ad K 125 L r σ)) := (xr_acmp_ne dX6_init_95 (by decide)).trans (and_congr_right fun _ => and_congr_right fun _ => x_ite)
theorem eX6_init_98 : wX6_init B ad K 98 L r σ ↔ ∃ v, L[6]? = some (.int v) ∧ wX6_init B ad K 100 L (.int v :: r) σ := xr_iload dX6_init_98
theorem eX6_init_100 {x : Int32} : wX6_init B ad K 100 L (.int x :: r) σ ↔ (if x = 0 then wX6_init B ad K 108 L r σ else wX6_init B ad K 103 L r σ) := (xr_if_eq dX6_init_100 (by decide)).trans x_ite
theorem eX6_init_103 : wX6_init B ad K 103 L r σ ↔ ∃ v, L[4]? = some (.int v) ∧ wX6_init B ad K 105 L (.int v :: r) σ := xr_iload dX6_init_103
theorem eX6_init_105 : wX6_init B ad K 105 L r σ ↔ wX6_init B ad K 113 L r σ := xr_goto dX6_init_105 (by decide)
theorem eX6_init_108 : wX6_init B ad K 108 L r σ ↔ ∃ v, L[8]? = some v ∧ x_rfv v ∧ wX6_init B ad K 110 L (v :: r) σ := xr_aload dX6_init_108
theorem eX6_init_110 {a : Nat} : wX6_init B ad K 110 L (.ref a :: r) σ ↔ ∃ fs v, σ.1 a = some (3, fs) ∧ fs[2]? = some v ∧ wX6_init B ad K 113 L (v :: r) σ := xr_getfield (t := 3) (j := 2) dX6_init_110 rfl
theorem eX6_init_113 {v : Int32} : wX6_init B ad K 113 L (.int v :: r) σ ↔ (4 < L.length ∧ x_nl L 4 ∧ wX6_init B ad K 115 (L.set 4 (.int v)) r σ) := xr_istore dX6_init_113
theorem eX6_init_115 : wX6_init B ad K 115 L r σ ↔ ∃ v, L[8]? = some v ∧ x_rfv v ∧ wX6_init B ad K 117 L (v :: r) σ := xr_aload dX6_init_115
theorem eX6_init_117 {a : Nat} : wX6_init B ad K 117 L (.ref a :: r) σ ↔ ∃ fs v, σ.1 a = some (3, fs) ∧ fs[2]? = some v ∧ wX6_init B ad K 120 L (v :: r) σ := xr_getfield (t := 3) (j := 2) dX6_init_117 rfl
theorem eX6_init_120 {v : Int32} : wX6_init B ad K 120 L (.int v :: r) σ ↔ (5 < L.length ∧ x_nl L 5 ∧ wX6_init B ad K 122 (L.set 5 (.int v)) r σ) := xr_istore dX6_init_120
theorem eX6_init_122 : wX6_init B ad K 122 L r σ ↔ wX6_init B ad K 123 L (.int 1 :: r) σ := xr_iconst dX6_init_122 (by decide)
theorem eX6_init_123 {v : Int32} : wX6_init B ad K 123 L (.int v :: r) σ ↔ (6 < L.length ∧ x_nl L 6 ∧ wX6_init B ad K 125 (L.set 6 (.int v)) r σ) := xr_istore dX6_init_123
theorem eX6_init_125 : wX6_init B ad K 125 L r σ ↔ ∃ v, L[7]? = some (.int v) ∧ x_nl L 7 ∧ wX6_init B ad K 128 (L.set 7 (.int (v + 1))) r σ := xr_iinc dX6_init_125 (by decide)
theorem eX6_init_128 : wX6_init B ad K 128 L r σ ↔ wX6_init B ad K 46 L r σ := xr_goto dX6_init_128 (by decide)
theorem eX6_init_131 : wX6_init B ad K 131 L r σ ↔ ∃ v, L[0]? = some v ∧ x_rfv v ∧ wX6_init B ad K 132 L (v :: r) σ := xr_aload_n dX6_init_131
theorem eX6_init_132 {a : Nat} : wX6_init B ad K 132 L (.ref a :: r) σ ↔ ∃ fs v, σ.1 a = some (6, fs) ∧ fs[2]? = some v ∧ wX6_init B ad K 135 L (v :: r) σ := xr_getfield (t := 6) (j := 2) dX6_init_132 rfl
theorem eX6_init_135 : wX6_init B ad K 135 L r σ ↔ ∃ v, L[1]? = some v ∧ x_rfv v ∧ wX6_init B ad K 136 L (v :: r) σ := xr_aload_n dX6_init_135
theorem eX6_init_136 {a : Nat} : wX6_init B ad K 136 L (.ref a :: r) σ ↔ ∃ fs v, σ.1 a = some (1, fs) ∧ fs[13]? = some v ∧ wX6_init B ad K 139 L (v :: r) σ := xr_getfield (t := 1) (j := 13) dX6_init_136 rfl
theorem eX6_init_139 {v0 v1 : Value} : wX6_init B ad K 139 L (v1 :: v0 :: r) σ ↔ ((r.map fun v => v.category).sum ≤ 8 ∧ x_cl (x_v 5 (eX5_copyFrom B ad)) [v0, v1] σ (fun v g => wX6_init B ad K 142 L (v.toList ++ r) g)) := xr_callV [v0, v1] r dX6_init_139 rfl
theorem eX6_init_142 : wX6_init B ad K 142 L r σ ↔ ∃ v, L[0]? = some v ∧ x_rfv v ∧ wX6_init B ad K 143 L (v :: r) σ := xr_aload_n dX6_init_142
theorem eX6_init_143 : wX6_init B ad K 143 L r σ ↔ ∃ v, L[1]? = some v ∧ x_rfv v ∧ wX6_init B ad K 144 L (v :: r) σ := xr_aload_n dX6_init_143
theorem eX6_init_144 {a : Nat} : wX6_init B ad K 144 L (.ref a :: r) σ ↔ ∃ fs v, σ.1 a = some (1, fs) ∧ fs[10]? = some v ∧ wX6_init B ad K 147 L (v :: r) σ := xr_getfield (t := 1) (j := 10) dX6_init_144 rfl
theorem eX6_init_147 {x : Int64} {a : Nat} : wX6_init B ad K 147 L (.long x :: .ref a :: r) σ ↔ ∃ fs, σ.1 a = some (6, fs) ∧ 3 < fs.length ∧ B ≤ a ∧ wX6_init B ad K 150 L r (x_up σ.1 a (6, fs.set 3 (.long x)), σ.2) := xr_put_l (t := 6) (j := 3) dX6_init_147 rfl (by decide)
theorem eX6_init_150 : wX6_init B ad K 150 L r σ ↔ ∃ v, L[0]? = some v ∧ x_rfv v ∧ wX6_init B ad K 151 L (v :: r) σ := xr_aload_n dX6_init_150
theorem eX6_init_151 : wX6_init B ad K 151 L r σ ↔ ∃ v, L[1]? = some v ∧ x_rfv v ∧ wX6_init B ad K 152 L (v :: r) σ := xr_aload_n dX6_init_151
theorem eX6_init_152 {a : Nat} : wX6_init B ad K 152 L (.ref a :: r) σ ↔ ∃ fs v, σ.1 a = some (1, fs) ∧ fs[12]? = some v ∧ wX6_init B ad K 155 L (v :: r) σ := xr_getfield (t := 1) (j := 12) dX6_init_152 rfl
theorem eX6_init_155 {x : Int32} {a : Nat} : wX6_init B ad K 155 L (.int x :: .ref a :: r) σ ↔ ∃ fs, σ.1 a = some (6, fs) ∧ 4 < fs.length ∧ B ≤ a ∧ wX6_init B ad K 158 L r (x_up σ.1 a (6, fs.set 4 (.int x)), σ.2) := xr_put_i (t := 6) (j := 4) dX6_init_155 rfl (by decide)
theorem eX6_init_158 : wX6_init B ad K 158 L r σ ↔ ∃ v, L[0]? = some v ∧ x_rfv v ∧ wX6_init B ad K 159 L (v :: r) σ := xr_aload_n dX6_init_158
theorem eX6_init_159 : wX6_init B ad K 159 L r σ ↔ ∃ v, L[2]? = some (.int v) ∧ wX6_init B ad K 160 L (.int v :: r) σ := xr_iload_n dX6_init_159
theorem eX6_init_160 {x : Int32} {a : Nat} : wX6_init B ad K 160 L (.int x :: .ref a :: r) σ ↔ ∃ fs, σ.1 a = some (6, fs) ∧ 5 < fs.length ∧ B ≤ a ∧ wX6_init B ad K 163 L r (x_up σ.1 a (6, fs.set 5 (.int x)), σ.2) := xr_put_i (t := 6) (j := 5) dX6_init_160 rfl (by decide)
theorem eX6_init_163 : wX6_init B ad K 163 L r σ ↔ ∃ v, L[0]? = some v ∧ x_rfv v ∧ wX6_init B ad K 164 L (v :: r) σ := xr_aload_n dX6_init_163
theorem eX6_init_164 : wX6_init B ad K 164 L r σ ↔ ∃ v, L[4]? = some (.int v) ∧ wX6_init B ad K 166 L (.int v :: r) σ := xr_iload dX6_init_164
theorem eX6_init_166 {x : Int32} {a : Nat} : wX6_init B ad K 166 L (.int x :: .ref a :: r) σ ↔ ∃ fs, σ.1 a = some (6, fs) ∧ 6 < fs.length ∧ B ≤ a ∧ wX6_init B ad K 169 L r (x_up σ.1 a (6, fs.set 6 (.int x)), σ.2) := xr_put_i (t := 6) (j := 6) dX6_init_166 rfl (by decide)
theorem eX6_init_169 : wX6_init B ad K 169 L r σ ↔ ∃ v, L[0]? = some v ∧ x_rfv v ∧ wX6_init B ad K 170 L (v :: r) σ := xr_aload_n dX6_init_169
theorem eX6_init_170 : wX6_init B ad K 170 L r σ ↔ ∃ v, L[5]? = some (.int v) ∧ wX6_init B ad K 172 L (.int v :: r) σ := xr_iload dX6_init_170
theorem eX6_init_172 {x : Int32} {a : Nat} : wX6_init B ad K 172 L (.int x :: .ref a :: r) σ ↔ ∃ fs, σ.1 a = some (6, fs) ∧ 7 < fs.length ∧ B ≤ a ∧ wX6_init B ad K 175 L r (x_up σ.1 a (6, fs.set 7 (.int x)), σ.2) := xr_put_i (t := 6) (j := 7) dX6_init_172 rfl (by decide)
theorem eX6_init_175 : wX6_init B ad K 175 L [] σ ↔ K none σ := xr_return dX6_init_175
end
abbrev wX7_init (B : Nat) (ad : Nat → Nat) (K : xK) : Nat → List Value → List Value → xW → Prop := x_WP B none (cxX7_init B ad) cX7_init K
section
variable {B : Nat} {ad : Nat → Nat} {K : xK} {L r : List Value} {σ : xW}
theorem eX7_init_0 : wX7_init B ad K 0 L r σ ↔ ∃ v, L[0]? = some v ∧ x_rfv v ∧ wX7_init B ad K 1 L (v :: r) σ := xr_aload_n dX7_init_0
theorem eX7_init_1 {v0 : Value} : wX7_init B ad K 1 L (v0 :: r) σ ↔ ((r.map fun v => v.category).sum ≤ 8 ∧ x_cl (x_obj) [v0] σ (fun v g => wX7_init B ad K 4 L (v.toList ++ r) g)) := xr_callI [v0] r dX7_init_1 rfl
theorem eX7_init_4 : wX7_init B ad K 4 L r σ ↔ ∃ v, L[0]? = some v ∧ x_rfv v ∧ wX7_init B ad K 5 L (v :: r) σ := xr_aload_n dX7_init_4
theorem eX7_init_5 : wX7_init B ad K 5 L r σ ↔ wX7_init B ad K 8 L (.int 400 :: r) σ := xr_sipush dX7_init_5 (by decide)
theorem eX7_init_8 {x : Int32} : wX7_init B ad K 8 L (.int x :: r) σ ↔ (¬ x.toInt < 0 ∧ x.toInt ≤ 60000000 ∧ wX7_init B ad K 11 L (.ref σ.2.1 :: r) (x_up σ.1 σ.2.1 (103, List.replicate x.toInt.toNat .null), σ.2.1 + 1, σ.2.2 + x.toInt.toNat)) := xr_anewarray (t := 103) dX7_init_8 rfl
theorem eX7_init_11 {v : Value} {a : Nat} : wX7_init B ad K 11 L (v :: .ref a :: r) σ ↔ ∃ fs, σ.1 a = some (7, fs) ∧ 0 < fs.length ∧ B ≤ a ∧ x_rfv v ∧ wX7_init B ad K 14 L r (x_up σ.1 a (7, fs.set 0 (v)), σ.2) := xr_put_a (t := 7) (j := 0) dX7_init_11 rfl (by decide)
theorem eX7_init_14 : wX7_init B ad K 14 L r σ ↔ ∃ v, L[0]? = some v ∧ x_rfv v ∧ wX7_init B ad K 15 L (v :: r) σ := xr_aload_n dX7_init_14
theorem eX7_init_15 : wX7_init B ad K 15 L r σ ↔ wX7_init B ad K 16 L (.int 4 :: r) σ := xr_iconst dX7_init_15 (by decide)
theorem eX7_init_16 {x : Int32} : wX7_init B ad K 16 L (.int x :: r) σ ↔ (¬ x.toInt < 0 ∧ x.toInt ≤ 60000000 ∧ wX7_init B ad K 19 L (.ref σ.2.1 :: r) (x_up σ.1 σ.2.1 (104, List.replicate x.toInt.toNat .null), σ.2.1 + 1, σ.2.2 + x.toInt.toNat)) := xr_anewarray (t := 104) dX7_init_16 rfl
theorem eX7_init_19 {v : Value} {a : Nat} : wX7_init B ad K 19 L (v :: .ref a :: r) σ ↔ ∃ fs, σ.1 a = some (7, fs) ∧ 2 < fs.length ∧ B ≤ a ∧ x_rfv v ∧ wX7_init B ad K 22 L r (x_up σ.1 a (7, fs.set 2 (v)), σ.2) := xr_put_a (t := 7) (j := 2) dX7_init_19 rfl (by decide)
theorem eX7_init_22 : wX7_init B ad K 22 L r σ ↔ ∃ v, L[0]? = some v ∧ x_rfv v ∧ wX7_init B ad K 23 L (v :: r) σ := xr_aload_n dX7_init_22
theorem eX7_init_23 : wX7_init B ad K 23 L r σ ↔ wX7_init B ad K 25 L (.int 60 :: r) σ := xr_bipush dX7_init_23 (by decide)
theorem eX7_init_25 {x : Int32} : wX7_init B ad K 25 L (.int x :: r) σ ↔ (¬ x.toInt < 0 ∧ x.toInt ≤ 60000000 ∧ wX7_init B ad K 28 L (.ref σ.2.1 :: r) (x_up σ.1 σ.2.1 (105, List.replicate x.toInt.toNat .null), σ.2.1 + 1, σ.2.2 + x.toInt.toNat)) := xr_anewarray (t := 105) dX7_init_25 rfl
theorem eX7_init_28 {v : Value} {a : Nat} : wX7_init B ad K 28 L (v :: .ref a :: r) σ ↔ ∃ fs, σ.1 a = some (7, fs) ∧ 4 < fs.length ∧ B ≤ a ∧ x_rfv v ∧ wX7_init B ad K 31 L r (x_up σ.1 a (7, fs.set 4 (v)), σ.2) := xr_put_a (t := 7) (j := 4) dX7_init_28 rfl (by decide)
theorem eX7_init_31 : wX7_init B ad K 31 L r σ ↔ ∃ v, L[0]? = some v ∧ x_rfv v ∧ wX7_init B ad K 32 L (v :: r) σ := xr_aload_n dX7_init_31
theorem eX7_init_32 : wX7_init B ad K 32 L r σ ↔ wX7_init B ad K 35 L (.ref σ.2.1 :: r) (x_up σ.1 σ.2.1 (4, [.null, .int 0, .int 0]), σ.2.1 + 1, σ.2.2 + 3) := xr_new (t := 4) dX7_init_32 rfl
theorem eX7_init_35 {v : Value} : wX7_init B ad K 35 L (v :: r) σ ↔ (v.category = 1 ∧ wX7_init B ad K 36 L (v :: v :: r) σ) := xr_dup dX7_init_35
theorem eX7_init_36 {v0 : Value} : wX7_init B ad K 36 L (v0 :: r) σ ↔ ((r.map fun v => v.category).sum ≤ 8 ∧ x_cl (x_n1 (eX4_init B ad)) [v0] σ (fun v g => wX7_init B ad K 39 L (v.toList ++ r) g)) := xr_callI [v0] r dX7_init_36 rfl
theorem eX7_init_39 {v : Value} {a : Nat} : wX7_init B ad K 39 L (v :: .ref a :: r) σ ↔ ∃ fs, σ.1 a = some (7, fs) ∧ 6 < fs.length ∧ B ≤ a ∧ x_rfv v ∧ wX7_init B ad K 42 L r (x_up σ.1 a (7, fs.set 6 (v)), σ.2) := xr_put_o (t := 7) (j := 6) dX7_init_39 rfl (by decide)
theorem eX7_init_42 : wX7_init B ad K 42 L r σ ↔ ∃ v, L[0]? = some v ∧ x_rfv v ∧ wX7_init B ad K 43 L (v :: r) σ := xr_aload_n dX7_init_42
theorem eX7_init_43 : wX7_init B ad K 43 L r σ ↔ wX7_init B ad K 46 L (.ref σ.2.1 :: r) (x_up σ.1 σ.2.1 (1, [.null, .null, .int 0, .int 0, .long 0, .long 0, .null, .null, .null, .long 0, .long 0, .int 0, .int 0, .null]), σ.2.1 + 1, σ.2.2 + 14) := xr_new (t := 1) dX7_init_43 rfl
theorem eX7_init_46 {v : Value} : wX7_init B ad K 46 L (v :: r) σ ↔ (v.category = 1 ∧ wX7_init B ad K 47 L (v :: v :: r) σ) := xr_dup dX7_init_46
theorem eX7_init_47 {v0 : Value} : wX7_init B ad K 47 L (v0 :: r) σ ↔ ((r.map fun v => v.category).sum ≤ 8 ∧ x_cl (x_n1 (eX0_init B ad)) [v0] σ (fun v g => wX7_init B ad K 50 L (v.toList ++ r) g)) := xr_callI [v0] r dX7_init_47 rfl
theorem eX7_init_50 {v : Value} {a : Nat} : wX7_init B ad K 50 L (v :: .ref a :: r) σ ↔ ∃ fs, σ.1 a = some (7, fs) ∧ 7 < fs.length ∧ B ≤ a ∧ x_rfv v ∧ wX7_init B ad K 53 L r (x_up σ.1 a (7, fs.set 7 (v)), σ.2) := xr_put_o (t := 7) (j := 7) dX7_init_50 rfl (by decide)
theorem eX7_init_53 : wX7_init B ad K 53 L r σ ↔ ∃ v, L[0]? = some v ∧ x_rfv v ∧ wX7_init B ad K 54 L (v :: r) σ := xr_aload_n dX7_init_53
theorem eX7_init_54 : wX7_init B ad K 54 L r σ ↔ wX7_init B ad K 57 L (.int 1000 :: r) σ := xr_sipush dX7_init_54 (by decide)
theorem eX7_init_57 {x : Int32} {a : Nat} : wX7_init B ad K 57 L (.int x :: .ref a :: r) σ ↔ ∃ fs, σ.1 a = some (7, fs) ∧ 8 < fs.length ∧ B ≤ a ∧ wX7_init B ad K 60 L r (x_up σ.1 a (7, fs.set 8 (.int x)), σ.2) := xr_put_i (t := 7) (j := 8) dX7_init_57 rfl (by decide)
theorem eX7_init_60 : wX7_init B ad K 60 L r σ ↔ ∃ v, L[0]? = some v ∧ x_rfv v ∧ wX7_init B ad K 61 L (v :: r) σ := xr_aload_n dX7_init_60
theorem eX7_init_61 {a : Nat} : wX7_init B ad K 61 L (.ref a :: r) σ ↔ ∃ fs v, σ.1 a = some (7, fs) ∧ fs[7]? = some v ∧ wX7_init B ad K 64 L (v :: r) σ := xr_getfield (t := 7) (j := 7) dX7_init_61 rfl
theorem eX7_init_64 : wX7_init B ad K 64 L r σ ↔ ∃ v, L[0]? = some v ∧ x_rfv v ∧ wX7_init B ad K 65 L (v :: r) σ := xr_aload_n dX7_init_64
theorem eX7_init_65 {a : Nat} : wX7_init B ad K 65 L (.ref a :: r) σ ↔ ∃ fs v, σ.1 a = some (7, fs) ∧ fs[8]? = some v ∧ wX7_init B ad K 68 L (v :: r) σ := xr_getfield (t := 7) (j := 8) dX7_init_65 rfl
theorem eX7_init_68 : wX7_init B ad K 68 L r σ ↔ ∃ v, L[0]? = some v ∧ x_rfv v ∧ wX7_init B ad K 69 L (v :: r) σ := xr_aload_n dX7_init_68
theorem eX7_init_69 {a : Nat} : wX7_init B ad K 69 L (.ref a :: r) σ ↔ ∃ fs v, σ.1 a = some (7, fs) ∧ fs[9]? = some v ∧ wX7_init B ad K 72 L (v :: r) σ := xr_getfield (t := 7) (j := 9) dX7_init_69 rfl
theorem eX7_init_72 : wX7_init B ad K 72 L r σ ↔ ∃ v, L[0]? = some v ∧ x_rfv v ∧ wX7_init B ad K 73 L (v :: r) σ := xr_aload_n dX7_init_72
theorem eX7_init_73 {a : Nat} : wX7_init B ad K 73 L (.ref a :: r) σ ↔ ∃ fs v, σ.1 a = some (7, fs) ∧ fs[10]? = some v ∧ wX7_init B ad K 76 L (v :: r) σ := xr_getfield (t := 7) (j := 10) dX7_init_73 rfl
theorem eX7_init_76 {v0 v1 v2 v3 : Value} : wX7_init B ad K 76 L (v3 :: v2 :: v1 :: v0 :: r) σ ↔ ((r.map fun v => v.category).sum ≤ 8 ∧ x_cl (x_v 1 (eX0_begin B ad)) [v0, v1, v2, v3] σ (fun v g => wX7_init B ad K 79 L (v.toList ++ r) g)) := xr_callV [v0, v1, v2, v3] r dX7_init_76 rfl
theorem eX7_init_79 : wX7_init B ad K 79 L [] σ ↔ K none σ := xr_return dX7_init_79
end
abbrev wX7_within (B : Nat) (ad : Nat → Nat) (K : xK) : Nat → List Value → List Value → xW → Prop := x_WP B (some .boolean) (cxX7_within B ad) cX7_within K
section
variable {B : Nat} {ad : Nat → Nat} {K : xK} {L r : List Value} {σ : xW}
theorem eX7_within_0 : wX7_within B ad K 0 L r σ ↔ ∃ v, L[0]? = some (.int v) ∧ wX7_within B ad K 1 L (.int v :: r) σ := xr_iload_n dX7_within_0
theorem eX7_within_1 : wX7_within B ad K 1 L r σ ↔ ∃ v, L[1]? = some (.int v) ∧ wX7_within B ad K 2 L (.int v :: r) σ := xr_iload_n dX7_within_1
theorem eX7_within_2 {x y : Int32} : wX7_within B ad K 2 L (.int y :: .int x :: r) σ ↔ (if x.toInt < y.toInt then wX7_within B ad K 14 L r σ else wX7_within B ad K 5 L r σ) := (xr_icmp_lt dX7_within_2 (by decide)).trans x_ite
theorem eX7_within_5 : wX7_within B ad K 5 L r σ ↔ ∃ v, L[0]? = some (.int v) ∧ wX7_within B ad K 6 L (.int v :: r) σ := xr_iload_n dX7_within_5
theorem eX7_within_6 : wX7_within B ad K 6 L r σ ↔ ∃ v, L[2]? = some (.int v) ∧ wX7_within B ad K 7 L (.int v :: r) σ := xr_iload_n dX7_within_6
theorem eX7_within_7 {x y : Int32} : wX7_within B ad K 7 L (.int y :: .int x :: r) σ ↔ (if y.toInt < x.toInt then wX7_within B ad K 14 L r σ else wX7_within B ad K 10 L r σ) := (xr_icmp_gt dX7_within_7 (by decide)).trans x_ite
theorem eX7_within_10 : wX7_within B ad K 10 L r σ ↔ wX7_within B ad K 11 L (.int 1 :: r) σ := xr_iconst dX7_within_10 (by decide)
theorem eX7_within_11 : wX7_within B ad K 11 L r σ ↔ wX7_within B ad K 15 L r σ := xr_goto dX7_within_11 (by decide)
theorem eX7_within_14 : wX7_within B ad K 14 L r σ ↔ wX7_within B ad K 15 L (.int 0 :: r) σ := xr_iconst dX7_within_14 (by decide)
theorem eX7_within_15 {x : Int32} : wX7_within B ad K 15 L [.int x] σ ↔ ((x = 0 ∨ x = 1) ∧ K (some (.int x)) σ) := xr_zreturn dX7_within_15
end
abbrev wX7_set (B : Nat) (ad : Nat → Nat) (K : xK) : Nat → List Value → List Value → xW → Prop := x_WP B (some .int) (cxX7_set B ad) cX7_set K
section
variable {B : Nat} {ad : Nat → Nat} {K : xK} {L r : List Value} {σ : xW}
theorem eX7_set_0 : wX7_set B ad K 0 L r σ ↔ ∃ v, L[1]? = some (.int v) ∧ wX7_set B ad K 1 L (.int v :: r) σ := xr_iload_n dX7_set_0
theorem eX7_set_1 : wX7_set B ad K 1 L r σ ↔ wX7_set B ad K 2 L (.int 0 :: r) σ := xr_iconst dX7_set_1 (by decide)
theorem eX7_set_2 : wX7_set B ad K 2 L r σ ↔ wX7_set B ad K 4 L (.int 10000000 :: r) σ := xr_ldc dX7_set_2 rfl
theorem eX7_set_4 {v0 v1 v2 : Value} : wX7_set B ad K 4 L (v2 :: v1 :: v0 :: r) σ ↔ ((r.map fun v => v.category).sum ≤ 8 ∧ x_cl (eX7_within B ad) [v0, v1, v2] σ (fun v g => wX7_set B ad K 7 L (v.toList ++ r) g)) := xr_callS [v0, v1, v2] r dX7_set_4 rfl
theorem eX7_set_7 {x : Int32} : wX7_set B ad K 7 L (.int x :: r) σ ↔ (if x = 0 then wX7_set B ad K 30 L r σ else wX7_set B ad K 10 L r σ) := (xr_if_eq dX7_set_7 (by decide)).trans x_ite
theorem eX7_set_10 : wX7_set B ad K 10 L r σ ↔ ∃ v, L[2]? = some (.int v) ∧ wX7_set B ad K 11 L (.int v :: r) σ := xr_iload_n dX7_set_10
theorem eX7_set_11 : wX7_set B ad K 11 L r σ ↔ wX7_set B ad K 12 L (.int 0 :: r) σ := xr_iconst dX7_set_11 (by decide)
theorem eX7_set_12 : wX7_set B ad K 12 L r σ ↔ wX7_set B ad K 14 L (.int 10000000 :: r) σ := xr_ldc dX7_set_12 rfl
theorem eX7_set_14 {v0 v1 v2 : Value} : wX7_set B ad K 14 L (v2 :: v1 :: v0 :: r) σ ↔ ((r.map fun v => v.category).sum ≤ 8 ∧ x_cl (eX7_within B ad) [v0, v1, v2] σ (fun v g => wX7_set B ad K 17 L (v.toList ++ r) g)) := xr_callS [v0, v1, v2] r dX7_set_14 rfl
theorem eX7_set_17 {x : Int32} : wX7_set B ad K 17 L (.int x :: r) σ ↔ (if x = 0 then wX7_set B ad K 30 L r σ else wX7_set B ad K 20 L r σ) := (xr_if_eq dX7_set_17 (by decide)).trans x_ite
theorem eX7_set_20 : wX7_set B ad K 20 L r σ ↔ ∃ v, L[3]? = some (.int v) ∧ wX7_set B ad K 21 L (.int v :: r) σ := xr_iload_n dX7_set_20
theorem eX7_set_21 : wX7_set B ad K 21 L r σ ↔ wX7_set B ad K 22 L (.int 0 :: r) σ := xr_iconst dX7_set_21 (by decide)
theorem eX7_set_22 : wX7_set B ad K 22 L r σ ↔ wX7_set B ad K 24 L (.int 10000000 :: r) σ := xr_ldc dX7_set_22 rfl
theorem eX7_set_24 {v0 v1 v2 : Value} : wX7_set B ad K 24 L (v2 :: v1 :: v0 :: r) σ ↔ ((r.map fun v => v.category).sum ≤ 8 ∧ x_cl (eX7_within B ad) [v0, v1, v2] σ (fun v g => wX7_set B ad K 27 L (v.toList ++ r) g)) := xr_callS [v0, v1, v2] r dX7_set_24 rfl
theorem eX7_set_27 {x : Int32} : wX7_set B ad K 27 L (.int x :: r) σ ↔ (if x = 0 then wX7_set B ad K 30 L r σ else wX7_set B ad K 33 L r σ) := (xr_if_ne dX7_set_27 (by decide)).trans x_ite
theorem eX7_set_30 : wX7_set B ad K 30 L r σ ↔ wX7_set B ad K 32 L (.int (-2) :: r) σ := xr_bipush dX7_set_30 (by decide)
theorem eX7_set_32 {x : Int32} : wX7_set B ad K 32 L [.int x] σ ↔ K (some (.int x)) σ := xr_ireturn dX7_set_32
theorem eX7_set_33 : wX7_set B ad K 33 L r σ ↔ ∃ v, L[0]? = some v ∧ x_rfv v ∧ wX7_set B ad K 34 L (v :: r) σ := xr_aload_n dX7_set_33
theorem eX7_set_34 : wX7_set B ad K 34 L r σ ↔ ∃ v, L[1]? = some (.int v) ∧ wX7_set B ad K 35 L (.int v :: r) σ := xr_iload_n dX7_set_34
theorem eX7_set_35 {x : Int32} {a : Nat} : wX7_set B ad K 35 L (.int x :: .ref a :: r) σ ↔ ∃ fs, σ.1 a = some (7, fs) ∧ 8 < fs.length ∧ B ≤ a ∧ wX7_set B ad K 38 L r (x_up σ.1 a (7, fs.set 8 (.int x)), σ.2) := xr_put_i (t := 7) (j := 8) dX7_set_35 rfl (by decide)
theorem eX7_set_38 : wX7_set B ad K 38 L r σ ↔ ∃ v, L[0]? = some v ∧ x_rfv v ∧ wX7_set B ad K 39 L (v :: r) σ := xr_aload_n dX7_set_38
theorem eX7_set_39 : wX7_set B ad K 39 L r σ ↔ ∃ v, L[2]? = some (.int v) ∧ wX7_set B ad K 40 L (.int v :: r) σ := xr_iload_n dX7_set_39
theorem eX7_set_40 {x : Int32} {a : Nat} : wX7_set B ad K 40 L (.int x :: .ref a :: r) σ ↔ ∃ fs, σ.1 a = some (7, fs) ∧ 9 < fs.length ∧ B ≤ a ∧ wX7_set B ad K 43 L r (x_up σ.1 a (7, fs.set 9 (.int x)), σ.2) := xr_put_i (t := 7) (j := 9) dX7_set_40 rfl (by decide)
theorem eX7_set_43 : wX7_set B ad K 43 L r σ ↔ ∃ v, L[0]? = some v ∧ x_rfv v ∧ wX7_set B ad K 44 L (v :: r) σ := xr_aload_n dX7_set_43
theorem eX7_set_44 : wX7_set B ad K 44 L r σ ↔ ∃ v, L[3]? = some (.int v) ∧ wX7_set B ad K 45 L (.int v :: r) σ := xr_iload_n dX7_set_44
theorem eX7_set_45 {x : Int32} {a : Nat} : wX7_set B ad K 45 L (.int x :: .ref a :: r) σ ↔ ∃ fs, σ.1 a = some (7, fs) ∧ 10 < fs.length ∧ B ≤ a ∧ wX7_set B ad K 48 L r (x_up σ.1 a (7, fs.set 10 (.int x)), σ.2) := xr_put_i (t := 7) (j := 10) dX7_set_45 rfl (by decide)
theorem eX7_set_48 : wX7_set B ad K 48 L r σ ↔ ∃ v, L[0]? = some v ∧ x_rfv v ∧ wX7_set B ad K 49 L (v :: r) σ := xr_aload_n dX7_set_48
theorem eX7_set_49 {a : Nat} : wX7_set B ad K 49 L (.ref a :: r) σ ↔ ∃ fs v, σ.1 a = some (7, fs) ∧ fs[7]? = some v ∧ wX7_set B ad K 52 L (v :: r) σ := xr_getfield (t := 7) (j := 7) dX7_set_49 rfl
theorem eX7_set_52 {a : Nat} : wX7_set B ad K 52 L (.ref a :: r) σ ↔ ∃ fs v, σ.1 a = some (1, fs) ∧ fs[2]? = some v ∧ wX7_set B ad K 55 L (v :: r) σ := xr_getfield (t := 1) (j := 2) dX7_set_52 rfl
theorem eX7_set_55 {x : Int32} : wX7_set B ad K 55 L (.int x :: r) σ ↔ (if x = 0 then wX7_set B ad K 58 L r σ else wX7_set B ad K 68 L r σ) := (xr_if_ne dX7_set_55 (by decide)).trans x_ite
theorem eX7_set_58 : wX7_set B ad K 58 L r σ ↔ ∃ v, L[0]? = some v ∧ x_rfv v ∧ wX7_set B ad K 59 L (v :: r) σ := xr_aload_n dX7_set_58
theorem eX7_set_59 {a : Nat} : wX7_set B ad K 59 L (.ref a :: r) σ ↔ ∃ fs v, σ.1 a = some (7, fs) ∧ fs[7]? = some v ∧ wX7_set B ad K 62 L (v :: r) σ := xr_getfield (t := 7) (j := 7) dX7_set_59 rfl
theorem eX7_set_62 : wX7_set B ad K 62 L r σ ↔ ∃ v, L[1]? = some (.int v) ∧ wX7_set B ad K 63 L (.int v :: r) σ := xr_iload_n dX7_set_62
theorem eX7_set_63 : wX7_set B ad K 63 L r σ ↔ ∃ v, L[2]? = some (.int v) ∧ wX7_set B ad K 64 L (.int v :: r) σ := xr_iload_n dX7_set_63
theorem eX7_set_64 : wX7_set B ad K 64 L r σ ↔ ∃ v, L[3]? = some (.int v) ∧ wX7_set B ad K 65 L (.int v :: r) σ := xr_iload_n dX7_set_64
theorem eX7_set_65 {v0 v1 v2 v3 : Value} : wX7_set B ad K 65 L (v3 :: v2 :: v1 :: v0 :: r) σ ↔ ((r.map fun v => v.category).sum ≤ 8 ∧ x_cl (x_v 1 (eX0_begin B ad)) [v0, v1, v2, v3] σ (fun v g => wX7_set B ad K 68 L (v.toList ++ r) g)) := xr_callV [v0, v1, v2, v3] r dX7_set_65 rfl
theorem eX7_set_68 : wX7_set B ad K 68 L r σ ↔ wX7_set B ad K 69 L (.int 1 :: r) σ := xr_iconst dX7_set_68 (by decide)
theorem eX7_set_69 {x : Int32} : wX7_set B ad K 69 L [.int x] σ ↔ K (some (.int x)) σ := xr_ireturn dX7_set_69
end
abbrev wX7_cls (B : Nat) (ad : Nat → Nat) (K : xK) : Nat → List Value → List Value → xW → Prop := x_WP B (some .int) (cxX7_cls B ad) cX7_cls K
section
variable {B : Nat} {ad : Nat → Nat} {K : xK} {L r : List Value} {σ : xW}
theorem eX7_cls_0 : wX7_cls B ad K 0 L r σ ↔ ∃ v, L[1]? = some (.int v) ∧ wX7_cls B ad K 1 L (.int v :: r) σ := xr_iload_n dX7_cls_0
theorem eX7_cls_1 : wX7_cls B ad K 1 L r σ ↔ wX7_cls B ad K 2 L (.int 0 :: r) σ := xr_iconst dX7_cls_1 (by decide)
theorem eX7_cls_2 : wX7_cls B ad K 2 L r σ ↔ wX7_cls B ad K 4 L (.int 10000000 :: r) σ := xr_ldc dX7_cls_2 rfl
theorem eX7_cls_4 {v0 v1 v2 : Value} : wX7_cls B ad K 4 L (v2 :: v1 :: v0 :: r) σ ↔ ((r.map fun v => v.category).sum ≤ 8 ∧ x_cl (eX7_within B ad) [v0, v1, v2] σ (fun v g => wX7_cls B ad K 7 L (v.toList ++ r) g)) := xr_callS [v0, v1, v2] r dX7_cls_4 rfl
theorem eX7_cls_7 {x : Int32} : wX7_cls B ad K 7 L (.int x :: r) σ ↔ (if x = 0 then wX7_cls B ad K 44 L r σ else wX7_cls B ad K 10 L r σ) := (xr_if_eq dX7_cls_7 (by decide)).trans x_ite
theorem eX7_cls_10 : wX7_cls B ad K 10 L r σ ↔ ∃ v, L[2]? = some (.int v) ∧ wX7_cls B ad K 11 L (.int v :: r) σ := xr_iload_n dX7_cls_10
theorem eX7_cls_11 : wX7_cls B ad K 11 L r σ ↔ wX7_cls B ad K 12 L (.int 0 :: r) σ := xr_iconst dX7_cls_11 (by decide)
theorem eX7_cls_12 : wX7_cls B ad K 12 L r σ ↔ wX7_cls B ad K 15 L (.int 2000 :: r) σ := xr_sipush dX7_cls_12 (by decide)
theorem eX7_cls_15 {v0 v1 v2 : Value} : wX7_cls B ad K 15 L (v2 :: v1 :: v0 :: r) σ ↔ ((r.map fun v => v.category).sum ≤ 8 ∧ x_cl (eX7_within B ad) [v0, v1, v2] σ (fun v g => wX7_cls B ad K 18 L (v.toList ++ r) g)) := xr_callS [v0, v1, v2] r dX7_cls_15 rfl
theorem eX7_cls_18 {x : Int32} : wX7_cls B ad K 18 L (.int x :: r) σ ↔ (if x = 0 then wX7_cls B ad K 44 L r σ else wX7_cls B ad K 21 L r σ) := (xr_if_eq dX7_cls_18 (by decide)).trans x_ite
theorem eX7_cls_21 : wX7_cls B ad K 21 L r σ ↔ ∃ v, L[3]? = some (.int v) ∧ wX7_cls B ad K 22 L (.int v :: r) σ := xr_iload_n dX7_cls_21
theorem eX7_cls_22 : wX7_cls B ad K 22 L r σ ↔ wX7_cls B ad K 23 L (.int 0 :: r) σ := xr_iconst dX7_cls_22 (by decide)
theorem eX7_cls_23 : wX7_cls B ad K 23 L r σ ↔ wX7_cls B ad K 26 L (.int 10000 :: r) σ := xr_sipush dX7_cls_23 (by decide)
theorem eX7_cls_26 {v0 v1 v2 : Value} : wX7_cls B ad K 26 L (v2 :: v1 :: v0 :: r) σ ↔ ((r.map fun v => v.category).sum ≤ 8 ∧ x_cl (eX7_within B ad) [v0, v1, v2] σ (fun v g => wX7_cls B ad K 29 L (v.toList ++ r) g)) := xr_callS [v0, v1, v2] r dX7_cls_26 rfl
theorem eX7_cls_29 {x : Int32} : wX7_cls B ad K 29 L (.int x :: r) σ ↔ (if x = 0 then wX7_cls B ad K 44 L r σ else wX7_cls B ad K 32 L r σ) := (xr_if_eq dX7_cls_29 (by decide)).trans x_ite
theorem eX7_cls_32 : wX7_cls B ad K 32 L r σ ↔ ∃ v, L[4]? = some (.int v) ∧ wX7_cls B ad K 34 L (.int v :: r) σ := xr_iload dX7_cls_32
theorem eX7_cls_34 : wX7_cls B ad K 34 L r σ ↔ wX7_cls B ad K 35 L (.int 0 :: r) σ := xr_iconst dX7_cls_34 (by decide)
theorem eX7_cls_35 : wX7_cls B ad K 35 L r σ ↔ wX7_cls B ad K 38 L (.int 10000 :: r) σ := xr_sipush dX7_cls_35 (by decide)
theorem eX7_cls_38 {v0 v1 v2 : Value} : wX7_cls B ad K 38 L (v2 :: v1 :: v0 :: r) σ ↔ ((r.map fun v => v.category).sum ≤ 8 ∧ x_cl (eX7_within B ad) [v0, v1, v2] σ (fun v g => wX7_cls B ad K 41 L (v.toList ++ r) g)) := xr_callS [v0, v1, v2] r dX7_cls_38 rfl
theorem eX7_cls_41 {x : Int32} : wX7_cls B ad K 41 L (.int x :: r) σ ↔ (if x = 0 then wX7_cls B ad K 44 L r σ else wX7_cls B ad K 47 L r σ) := (xr_if_ne dX7_cls_41 (by decide)).trans x_ite
theorem eX7_cls_44 : wX7_cls B ad K 44 L r σ ↔ wX7_cls B ad K 46 L (.int (-2) :: r) σ := xr_bipush dX7_cls_44 (by decide)
theorem eX7_cls_46 {x : Int32} : wX7_cls B ad K 46 L [.int x] σ ↔ K (some (.int x)) σ := xr_ireturn dX7_cls_46
theorem eX7_cls_47 : wX7_cls B ad K 47 L r σ ↔ ∃ v, L[0]? = some v ∧ x_rfv v ∧ wX7_cls B ad K 48 L (v :: r) σ := xr_aload_n dX7_cls_47
theorem eX7_cls_48 {a : Nat} : wX7_cls B ad K 48 L (.ref a :: r) σ ↔ ∃ fs v, σ.1 a = some (7, fs) ∧ fs[3]? = some v ∧ wX7_cls B ad K 51 L (v :: r) σ := xr_getfield (t := 7) (j := 3) dX7_cls_48 rfl
theorem eX7_cls_51 : wX7_cls B ad K 51 L r σ ↔ wX7_cls B ad K 52 L (.int 4 :: r) σ := xr_iconst dX7_cls_51 (by decide)
theorem eX7_cls_52 {x y : Int32} : wX7_cls B ad K 52 L (.int y :: .int x :: r) σ ↔ (if x.toInt < y.toInt then wX7_cls B ad K 58 L r σ else wX7_cls B ad K 55 L r σ) := (xr_icmp_lt dX7_cls_52 (by decide)).trans x_ite
theorem eX7_cls_55 : wX7_cls B ad K 55 L r σ ↔ wX7_cls B ad K 57 L (.int (-4) :: r) σ := xr_bipush dX7_cls_55 (by decide)
theorem eX7_cls_57 {x : Int32} : wX7_cls B ad K 57 L [.int x] σ ↔ K (some (.int x)) σ := xr_ireturn dX7_cls_57
theorem eX7_cls_58 : wX7_cls B ad K 58 L r σ ↔ ∃ v, L[0]? = some v ∧ x_rfv v ∧ wX7_cls B ad K 59 L (v :: r) σ := xr_aload_n dX7_cls_58
theorem eX7_cls_59 {a : Nat} : wX7_cls B ad K 59 L (.ref a :: r) σ ↔ ∃ fs v, σ.1 a = some (7, fs) ∧ fs[3]? = some v ∧ wX7_cls B ad K 62 L (v :: r) σ := xr_getfield (t := 7) (j := 3) dX7_cls_59 rfl
theorem eX7_cls_62 {v : Int32} : wX7_cls B ad K 62 L (.int v :: r) σ ↔ (5 < L.length ∧ x_nl L 5 ∧ wX7_cls B ad K 64 (L.set 5 (.int v)) r σ) := xr_istore dX7_cls_62
theorem eX7_cls_64 : wX7_cls B ad K 64 L r σ ↔ ∃ v, L[0]? = some v ∧ x_rfv v ∧ wX7_cls B ad K 65 L (v :: r) σ := xr_aload_n dX7_cls_64
theorem eX7_cls_65 {a : Nat} : wX7_cls B ad K 65 L (.ref a :: r) σ ↔ ∃ fs v, σ.1 a = some (7, fs) ∧ fs[2]? = some v ∧ wX7_cls B ad K 68 L (v :: r) σ := xr_getfield (t := 7) (j := 2) dX7_cls_65 rfl
theorem eX7_cls_68 : wX7_cls B ad K 68 L r σ ↔ ∃ v, L[5]? = some (.int v) ∧ wX7_cls B ad K 70 L (.int v :: r) σ := xr_iload dX7_cls_68
theorem eX7_cls_70 : wX7_cls B ad K 70 L r σ ↔ wX7_cls B ad K 73 L (.ref σ.2.1 :: r) (x_up σ.1 σ.2.1 (2, [.int 0, .int 0, .int 0, .int 0, .int 0]), σ.2.1 + 1, σ.2.2 + 5) := xr_new (t := 2) dX7_cls_70 rfl
theorem eX7_cls_73 {v : Value} : wX7_cls B ad K 73 L (v :: r) σ ↔ (v.category = 1 ∧ wX7_cls B ad K 74 L (v :: v :: r) σ) := xr_dup dX7_cls_73
theorem eX7_cls_74 : wX7_cls B ad K 74 L r σ ↔ ∃ v, L[5]? = some (.int v) ∧ wX7_cls B ad K 76 L (.int v :: r) σ := xr_iload dX7_cls_74
theorem eX7_cls_76 : wX7_cls B ad K 76 L r σ ↔ ∃ v, L[1]? = some (.int v) ∧ wX7_cls B ad K 77 L (.int v :: r) σ := xr_iload_n dX7_cls_76
theorem eX7_cls_77 : wX7_cls B ad K 77 L r σ ↔ ∃ v, L[2]? = some (.int v) ∧ wX7_cls B ad K 78 L (.int v :: r) σ := xr_iload_n dX7_cls_77
theorem eX7_cls_78 : wX7_cls B ad K 78 L r σ ↔ ∃ v, L[3]? = some (.int v) ∧ wX7_cls B ad K 79 L (.int v :: r) σ := xr_iload_n dX7_cls_78
theorem eX7_cls_79 : wX7_cls B ad K 79 L r σ ↔ ∃ v, L[4]? = some (.int v) ∧ wX7_cls B ad K 81 L (.int v :: r) σ := xr_iload dX7_cls_79
theorem eX7_cls_81 {v0 v1 v2 v3 v4 v5 : Value} : wX7_cls B ad K 81 L (v5 :: v4 :: v3 :: v2 :: v1 :: v0 :: r) σ ↔ ((r.map fun v => v.category).sum ≤ 8 ∧ x_cl (x_n1 (eX1_init B ad)) [v0, v1, v2, v3, v4, v5] σ (fun v g => wX7_cls B ad K 84 L (v.toList ++ r) g)) := xr_callI [v0, v1, v2, v3, v4, v5] r dX7_cls_81 rfl
theorem eX7_cls_84 {a x : Nat} {j : Int32} : wX7_cls B ad K 84 L (.ref x :: .int j :: .ref a :: r) σ ↔ ∃ t V t2 fs, σ.1 a = some (t, V) ∧ σ.1 x = some (t2, fs) ∧ ((t = 103 ∧ t2 = 3) ∨ (t = 104 ∧ t2 = 2) ∨ (t = 105 ∧ t2 = 6)) ∧ (x_ix j V).isSome ∧ B ≤ a ∧ wX7_cls B ad K 85 L r (x_up σ.1 a (t, V.set j.toInt.toNat (.ref x)), σ.2) := xr_aastore dX7_cls_84
theorem eX7_cls_85 : wX7_cls B ad K 85 L r σ ↔ ∃ v, L[0]? = some v ∧ x_rfv v ∧ wX7_cls B ad K 86 L (v :: r) σ := xr_aload_n dX7_cls_85
theorem eX7_cls_86 {v : Value} : wX7_cls B ad K 86 L (v :: r) σ ↔ (v.category = 1 ∧ wX7_cls B ad K 87 L (v :: v :: r) σ) := xr_dup dX7_cls_86
theorem eX7_cls_87 {a : Nat} : wX7_cls B ad K 87 L (.ref a :: r) σ ↔ ∃ fs v, σ.1 a = some (7, fs) ∧ fs[3]? = some v ∧ wX7_cls B ad K 90 L (v :: r) σ := xr_getfield (t := 7) (j := 3) dX7_cls_87 rfl
theorem eX7_cls_90 : wX7_cls B ad K 90 L r σ ↔ wX7_cls B ad K 91 L (.int 1 :: r) σ := xr_iconst dX7_cls_90 (by decide)
theorem eX7_cls_91 {x y : Int32} : wX7_cls B ad K 91 L (.int y :: .int x :: r) σ ↔ wX7_cls B ad K 92 L (.int (x + y) :: r) σ := xr_iadd dX7_cls_91
theorem eX7_cls_92 {x : Int32} {a : Nat} : wX7_cls B ad K 92 L (.int x :: .ref a :: r) σ ↔ ∃ fs, σ.1 a = some (7, fs) ∧ 3 < fs.length ∧ B ≤ a ∧ wX7_cls B ad K 95 L r (x_up σ.1 a (7, fs.set 3 (.int x)), σ.2) := xr_put_i (t := 7) (j := 3) dX7_cls_92 rfl (by decide)
theorem eX7_cls_95 : wX7_cls B ad K 95 L r σ ↔ ∃ v, L[5]? = some (.int v) ∧ wX7_cls B ad K 97 L (.int v :: r) σ := xr_iload dX7_cls_95
theorem eX7_cls_97 {x : Int32} : wX7_cls B ad K 97 L [.int x] σ ↔ K (some (.int x)) σ := xr_ireturn dX7_cls_97
end
abbrev wX7_addToLine (B : Nat) (ad : Nat → Nat) (K : xK) : Nat → List Value → List Value → xW → Prop := x_WP B (some .int) (cxX7_addToLine B ad) cX7_addToLine K
section
variable {B : Nat} {ad : Nat → Nat} {K : xK} {L r : List Value} {σ : xW}
theorem eX7_addToLine_0 : wX7_addToLine B ad K 0 L r σ ↔ ∃ v, L[0]? = some v ∧ x_rfv v ∧ wX7_addToLine B ad K 1 L (v :: r) σ := xr_aload_n dX7_addToLine_0
theorem eX7_addToLine_1 {a : Nat} : wX7_addToLine B ad K 1 L (.ref a :: r) σ ↔ ∃ fs v, σ.1 a = some (7, fs) ∧ fs[0]? = some v ∧ wX7_addToLine B ad K 4 L (v :: r) σ := xr_getfield (t := 7) (j := 0) dX7_addToLine_1 rfl
theorem eX7_addToLine_4 : wX7_addToLine B ad K 4 L r σ ↔ ∃ v, L[0]? = some v ∧ x_rfv v ∧ wX7_addToLine B ad K 5 L (v :: r) σ := xr_aload_n dX7_addToLine_4
theorem eX7_addToLine_5 {a : Nat} : wX7_addToLine B ad K 5 L (.ref a :: r) σ ↔ ∃ fs v, σ.1 a = some (7, fs) ∧ fs[1]? = some v ∧ wX7_addToLine B ad K 8 L (v :: r) σ := xr_getfield (t := 7) (j := 1) dX7_addToLine_5 rfl
theorem eX7_addToLine_8 : wX7_addToLine B ad K 8 L r σ ↔ ∃ v, L[1]? = some v ∧ x_rfv v ∧ wX7_addToLine B ad K 9 L (v :: r) σ := xr_aload_n dX7_addToLine_8
theorem eX7_addToLine_9 {a x : Nat} {j : Int32} : wX7_addToLine B ad K 9 L (.ref x :: .int j :: .ref a :: r) σ ↔ ∃ t V t2 fs, σ.1 a = some (t, V) ∧ σ.1 x = some (t2, fs) ∧ ((t = 103 ∧ t2 = 3) ∨ (t = 104 ∧ t2 = 2) ∨ (t = 105 ∧ t2 = 6)) ∧ (x_ix j V).isSome ∧ B ≤ a ∧ wX7_addToLine B ad K 10 L r (x_up σ.1 a (t, V.set j.toInt.toNat (.ref x)), σ.2) := xr_aastore dX7_addToLine_9
theorem eX7_addToLine_10 : wX7_addToLine B ad K 10 L r σ ↔ ∃ v, L[0]? = some v ∧ x_rfv v ∧ wX7_addToLine B ad K 11 L (v :: r) σ := xr_aload_n dX7_addToLine_10
theorem eX7_addToLine_11 {v : Value} : wX7_addToLine B ad K 11 L (v :: r) σ ↔ (v.category = 1 ∧ wX7_addToLine B ad K 12 L (v :: v :: r) σ) := xr_dup dX7_addToLine_11
theorem eX7_addToLine_12 {a : Nat} : wX7_addToLine B ad K 12 L (.ref a :: r) σ ↔ ∃ fs v, σ.1 a = some (7, fs) ∧ fs[1]? = some v ∧ wX7_addToLine B ad K 15 L (v :: r) σ := xr_getfield (t := 7) (j := 1) dX7_addToLine_12 rfl
theorem eX7_addToLine_15 : wX7_addToLine B ad K 15 L r σ ↔ wX7_addToLine B ad K 16 L (.int 1 :: r) σ := xr_iconst dX7_addToLine_15 (by decide)
theorem eX7_addToLine_16 {x y : Int32} : wX7_addToLine B ad K 16 L (.int y :: .int x :: r) σ ↔ wX7_addToLine B ad K 17 L (.int (x + y) :: r) σ := xr_iadd dX7_addToLine_16
theorem eX7_addToLine_17 {x : Int32} {a : Nat} : wX7_addToLine B ad K 17 L (.int x :: .ref a :: r) σ ↔ ∃ fs, σ.1 a = some (7, fs) ∧ 1 < fs.length ∧ B ≤ a ∧ wX7_addToLine B ad K 20 L r (x_up σ.1 a (7, fs.set 1 (.int x)), σ.2) := xr_put_i (t := 7) (j := 1) dX7_addToLine_17 rfl (by decide)
theorem eX7_addToLine_20 : wX7_addToLine B ad K 20 L r σ ↔ ∃ v, L[0]? = some v ∧ x_rfv v ∧ wX7_addToLine B ad K 21 L (v :: r) σ := xr_aload_n dX7_addToLine_20
theorem eX7_addToLine_21 {a : Nat} : wX7_addToLine B ad K 21 L (.ref a :: r) σ ↔ ∃ fs v, σ.1 a = some (7, fs) ∧ fs[6]? = some v ∧ wX7_addToLine B ad K 24 L (v :: r) σ := xr_getfield (t := 7) (j := 6) dX7_addToLine_21 rfl
theorem eX7_addToLine_24 : wX7_addToLine B ad K 24 L r σ ↔ ∃ v, L[1]? = some v ∧ x_rfv v ∧ wX7_addToLine B ad K 25 L (v :: r) σ := xr_aload_n dX7_addToLine_24
theorem eX7_addToLine_25 {v0 v1 : Value} : wX7_addToLine B ad K 25 L (v1 :: v0 :: r) σ ↔ ((r.map fun v => v.category).sum ≤ 8 ∧ x_cl (x_v 4 (eX4_addLast B ad)) [v0, v1] σ (fun v g => wX7_addToLine B ad K 28 L (v.toList ++ r) g)) := xr_callV [v0, v1] r dX7_addToLine_25 rfl
theorem eX7_addToLine_28 : wX7_addToLine B ad K 28 L r σ ↔ ∃ v, L[1]? = some v ∧ x_rfv v ∧ wX7_addToLine B ad K 29 L (v :: r) σ := xr_aload_n dX7_addToLine_28
theorem eX7_addToLine_29 {a : Nat} : wX7_addToLine B ad K 29 L (.ref a :: r) σ ↔ ∃ fs v, σ.1 a = some (3, fs) ∧ fs[0]? = some v ∧ wX7_addToLine B ad K 32 L (v :: r) σ := xr_getfield (t := 3) (j := 0) dX7_addToLine_29 rfl
theorem eX7_addToLine_32 {x : Int32} : wX7_addToLine B ad K 32 L [.int x] σ ↔ K (some (.int x)) σ := xr_ireturn dX7_addToLine_32
end
abbrev wX7_box (B : Nat) (ad : Nat → Nat) (K : xK) : Nat → List Value → List Value → xW → Prop := x_WP B (some .int) (cxX7_box B ad) cX7_box K
section
variable {B : Nat} {ad : Nat → Nat} {K : xK} {L r : List Value} {σ : xW}
theorem eX7_box_0 : wX7_box B ad K 0 L r σ ↔ ∃ v, L[1]? = some (.int v) ∧ wX7_box B ad K 1 L (.int v :: r) σ := xr_iload_n dX7_box_0
theorem eX7_box_1 : wX7_box B ad K 1 L r σ ↔ wX7_box B ad K 2 L (.int 0 :: r) σ := xr_iconst dX7_box_1 (by decide)
theorem eX7_box_2 : wX7_box B ad K 2 L r σ ↔ wX7_box B ad K 4 L (.int 1000000 :: r) σ := xr_ldc dX7_box_2 rfl
theorem eX7_box_4 {v0 v1 v2 : Value} : wX7_box B ad K 4 L (v2 :: v1 :: v0 :: r) σ ↔ ((r.map fun v => v.category).sum ≤ 8 ∧ x_cl (eX7_within B ad) [v0, v1, v2] σ (fun v g => wX7_box B ad K 7 L (v.toList ++ r) g)) := xr_callS [v0, v1, v2] r dX7_box_4 rfl
theorem eX7_box_7 {x : Int32} : wX7_box B ad K 7 L (.int x :: r) σ ↔ (if x = 0 then wX7_box B ad K 20 L r σ else wX7_box B ad K 10 L r σ) := (xr_if_eq dX7_box_7 (by decide)).trans x_ite
theorem eX7_box_10 : wX7_box B ad K 10 L r σ ↔ ∃ v, L[2]? = some (.int v) ∧ wX7_box B ad K 11 L (.int v :: r) σ := xr_iload_n dX7_box_10
theorem eX7_box_11 : wX7_box B ad K 11 L r σ ↔ wX7_box B ad K 12 L (.int 0 :: r) σ := xr_iconst dX7_box_11 (by decide)
theorem eX7_box_12 : wX7_box B ad K 12 L r σ ↔ wX7_box B ad K 14 L (.int 1000000 :: r) σ := xr_ldc dX7_box_12 rfl
theorem eX7_box_14 {v0 v1 v2 : Value} : wX7_box B ad K 14 L (v2 :: v1 :: v0 :: r) σ ↔ ((r.map fun v => v.category).sum ≤ 8 ∧ x_cl (eX7_within B ad) [v0, v1, v2] σ (fun v g => wX7_box B ad K 17 L (v.toList ++ r) g)) := xr_callS [v0, v1, v2] r dX7_box_14 rfl
theorem eX7_box_17 {x : Int32} : wX7_box B ad K 17 L (.int x :: r) σ ↔ (if x = 0 then wX7_box B ad K 20 L r σ else wX7_box B ad K 23 L r σ) := (xr_if_ne dX7_box_17 (by decide)).trans x_ite
theorem eX7_box_20 : wX7_box B ad K 20 L r σ ↔ wX7_box B ad K 22 L (.int (-2) :: r) σ := xr_bipush dX7_box_20 (by decide)
theorem eX7_box_22 {x : Int32} : wX7_box B ad K 22 L [.int x] σ ↔ K (some (.int x)) σ := xr_ireturn dX7_box_22
theorem eX7_box_23 : wX7_box B ad K 23 L r σ ↔ ∃ v, L[0]? = some v ∧ x_rfv v ∧ wX7_box B ad K 24 L (v :: r) σ := xr_aload_n dX7_box_23
theorem eX7_box_24 {a : Nat} : wX7_box B ad K 24 L (.ref a :: r) σ ↔ ∃ fs v, σ.1 a = some (7, fs) ∧ fs[1]? = some v ∧ wX7_box B ad K 27 L (v :: r) σ := xr_getfield (t := 7) (j := 1) dX7_box_24 rfl
theorem eX7_box_27 : wX7_box B ad K 27 L r σ ↔ wX7_box B ad K 30 L (.int 400 :: r) σ := xr_sipush dX7_box_27 (by decide)
theorem eX7_box_30 {x y : Int32} : wX7_box B ad K 30 L (.int y :: .int x :: r) σ ↔ (if x.toInt < y.toInt then wX7_box B ad K 36 L r σ else wX7_box B ad K 33 L r σ) := (xr_icmp_lt dX7_box_30 (by decide)).trans x_ite
theorem eX7_box_33 : wX7_box B ad K 33 L r σ ↔ wX7_box B ad K 35 L (.int (-4) :: r) σ := xr_bipush dX7_box_33 (by decide)
theorem eX7_box_35 {x : Int32} : wX7_box B ad K 35 L [.int x] σ ↔ K (some (.int x)) σ := xr_ireturn dX7_box_35
theorem eX7_box_36 : wX7_box B ad K 36 L r σ ↔ wX7_box B ad K 39 L (.ref σ.2.1 :: r) (x_up σ.1 σ.2.1 (3, [.int 0, .null, .int 0, .int 0, .int 0, .int 0, .int 0, .null, .int 0, .int 0, .int 0, .int 0, .long 0]), σ.2.1 + 1, σ.2.2 + 13) := xr_new (t := 3) dX7_box_36 rfl
theorem eX7_box_39 {v : Value} : wX7_box B ad K 39 L (v :: r) σ ↔ (v.category = 1 ∧ wX7_box B ad K 40 L (v :: v :: r) σ) := xr_dup dX7_box_39
theorem eX7_box_40 : wX7_box B ad K 40 L r σ ↔ ∃ v, L[0]? = some v ∧ x_rfv v ∧ wX7_box B ad K 41 L (v :: r) σ := xr_aload_n dX7_box_40
theorem eX7_box_41 {a : Nat} : wX7_box B ad K 41 L (.ref a :: r) σ ↔ ∃ fs v, σ.1 a = some (7, fs) ∧ fs[1]? = some v ∧ wX7_box B ad K 44 L (v :: r) σ := xr_getfield (t := 7) (j := 1) dX7_box_41 rfl
theorem eX7_box_44 : wX7_box B ad K 44 L r σ ↔ wX7_box B ad K 47 L (.ref (ad 0) :: r) σ := xr_gets dX7_box_44 rfl
theorem eX7_box_47 : wX7_box B ad K 47 L r σ ↔ ∃ v, L[1]? = some (.int v) ∧ wX7_box B ad K 48 L (.int v :: r) σ := xr_iload_n dX7_box_47
theorem eX7_box_48 {v0 v1 v2 v3 : Value} : wX7_box B ad K 48 L (v3 :: v2 :: v1 :: v0 :: r) σ ↔ ((r.map fun v => v.category).sum ≤ 8 ∧ x_cl (x_n1 (eX2_init B ad)) [v0, v1, v2, v3] σ (fun v g => wX7_box B ad K 51 L (v.toList ++ r) g)) := xr_callI [v0, v1, v2, v3] r dX7_box_48 rfl
theorem eX7_box_51 {v : Value} : wX7_box B ad K 51 L (v :: r) σ ↔ (x_rfv v ∧ 3 < L.length ∧ x_nl L 3 ∧ wX7_box B ad K 52 (L.set 3 v) r σ) := xr_astore_n dX7_box_51
theorem eX7_box_52 : wX7_box B ad K 52 L r σ ↔ ∃ v, L[3]? = some v ∧ x_rfv v ∧ wX7_box B ad K 53 L (v :: r) σ := xr_aload_n dX7_box_52
theorem eX7_box_53 : wX7_box B ad K 53 L r σ ↔ ∃ v, L[2]? = some (.int v) ∧ wX7_box B ad K 54 L (.int v :: r) σ := xr_iload_n dX7_box_53
theorem eX7_box_54 {x : Int32} {a : Nat} : wX7_box B ad K 54 L (.int x :: .ref a :: r) σ ↔ ∃ fs, σ.1 a = some (3, fs) ∧ 3 < fs.length ∧ B ≤ a ∧ wX7_box B ad K 57 L r (x_up σ.1 a (3, fs.set 3 (.int x)), σ.2) := xr_put_i (t := 3) (j := 3) dX7_box_54 rfl (by decide)
theorem eX7_box_57 : wX7_box B ad K 57 L r σ ↔ ∃ v, L[0]? = some v ∧ x_rfv v ∧ wX7_box B ad K 58 L (v :: r) σ := xr_aload_n dX7_box_57
theorem eX7_box_58 : wX7_box B ad K 58 L r σ ↔ ∃ v, L[3]? = some v ∧ x_rfv v ∧ wX7_box B ad K 59 L (v :: r) σ := xr_aload_n dX7_box_58
theorem eX7_box_59 {v0 v1 : Value} : wX7_box B ad K 59 L (v1 :: v0 :: r) σ ↔ ((r.map fun v => v.category).sum ≤ 8 ∧ x_cl (x_v 7 (eX7_addToLine B ad)) [v0, v1] σ (fun v g => wX7_box B ad K 62 L (v.toList ++ r) g)) := xr_callV [v0, v1] r dX7_box_59 rfl
theorem eX7_box_62 {x : Int32} : wX7_box B ad K 62 L [.int x] σ ↔ K (some (.int x)) σ := xr_ireturn dX7_box_62
end
abbrev wX7_glue (B : Nat) (ad : Nat → Nat) (K : xK) : Nat → List Value → List Value → xW → Prop := x_WP B (some .int) (cxX7_glue B ad) cX7_glue K
section
variable {B : Nat} {ad : Nat → Nat} {K : xK} {L r : List Value} {σ : xW}
theorem eX7_glue_0 : wX7_glue B ad K 0 L r σ ↔ ∃ v, L[1]? = some (.int v) ∧ wX7_glue B ad K 1 L (.int v :: r) σ := xr_iload_n dX7_glue_0
theorem eX7_glue_1 : wX7_glue B ad K 1 L r σ ↔ wX7_glue B ad K 3 L (.int (-1000000) :: r) σ := xr_ldc dX7_glue_1 rfl
theorem eX7_glue_3 : wX7_glue B ad K 3 L r σ ↔ wX7_glue B ad K 5 L (.int 1000000 :: r) σ := xr_ldc dX7_glue_3 rfl
theorem eX7_glue_5 {v0 v1 v2 : Value} : wX7_glue B ad K 5 L (v2 :: v1 :: v0 :: r) σ ↔ ((r.map fun v => v.category).sum ≤ 8 ∧ x_cl (eX7_within B ad) [v0, v1, v2] σ (fun v g => wX7_glue B ad K 8 L (v.toList ++ r) g)) := xr_callS [v0, v1, v2] r dX7_glue_5 rfl
theorem eX7_glue_8 {x : Int32} : wX7_glue B ad K 8 L (.int x :: r) σ ↔ (if x = 0 then wX7_glue B ad K 41 L r σ else wX7_glue B ad K 11 L r σ) := (xr_if_eq dX7_glue_8 (by decide)).trans x_ite
theorem eX7_glue_11 : wX7_glue B ad K 11 L r σ ↔ ∃ v, L[2]? = some (.int v) ∧ wX7_glue B ad K 12 L (.int v :: r) σ := xr_iload_n dX7_glue_11
theorem eX7_glue_12 : wX7_glue B ad K 12 L r σ ↔ wX7_glue B ad K 13 L (.int 0 :: r) σ := xr_iconst dX7_glue_12 (by decide)
theorem eX7_glue_13 : wX7_glue B ad K 13 L r σ ↔ wX7_glue B ad K 15 L (.int 1000000 :: r) σ := xr_ldc dX7_glue_13 rfl
theorem eX7_glue_15 {v0 v1 v2 : Value} : wX7_glue B ad K 15 L (v2 :: v1 :: v0 :: r) σ ↔ ((r.map fun v => v.category).sum ≤ 8 ∧ x_cl (eX7_within B ad) [v0, v1, v2] σ (fun v g => wX7_glue B ad K 18 L (v.toList ++ r) g)) := xr_callS [v0, v1, v2] r dX7_glue_15 rfl
theorem eX7_glue_18 {x : Int32} : wX7_glue B ad K 18 L (.int x :: r) σ ↔ (if x = 0 then wX7_glue B ad K 41 L r σ else wX7_glue B ad K 21 L r σ) := (xr_if_eq dX7_glue_18 (by decide)).trans x_ite
theorem eX7_glue_21 : wX7_glue B ad K 21 L r σ ↔ ∃ v, L[3]? = some (.int v) ∧ wX7_glue B ad K 22 L (.int v :: r) σ := xr_iload_n dX7_glue_21
theorem eX7_glue_22 : wX7_glue B ad K 22 L r σ ↔ wX7_glue B ad K 23 L (.int 0 :: r) σ := xr_iconst dX7_glue_22 (by decide)
theorem eX7_glue_23 : wX7_glue B ad K 23 L r σ ↔ wX7_glue B ad K 24 L (.int 3 :: r) σ := xr_iconst dX7_glue_23 (by decide)
theorem eX7_glue_24 {v0 v1 v2 : Value} : wX7_glue B ad K 24 L (v2 :: v1 :: v0 :: r) σ ↔ ((r.map fun v => v.category).sum ≤ 8 ∧ x_cl (eX7_within B ad) [v0, v1, v2] σ (fun v g => wX7_glue B ad K 27 L (v.toList ++ r) g)) := xr_callS [v0, v1, v2] r dX7_glue_24 rfl
theorem eX7_glue_27 {x : Int32} : wX7_glue B ad K 27 L (.int x :: r) σ ↔ (if x = 0 then wX7_glue B ad K 41 L r σ else wX7_glue B ad K 30 L r σ) := (xr_if_eq dX7_glue_27 (by decide)).trans x_ite
theorem eX7_glue_30 : wX7_glue B ad K 30 L r σ ↔ ∃ v, L[4]? = some (.int v) ∧ wX7_glue B ad K 32 L (.int v :: r) σ := xr_iload dX7_glue_30
theorem eX7_glue_32 : wX7_glue B ad K 32 L r σ ↔ wX7_glue B ad K 33 L (.int 0 :: r) σ := xr_iconst dX7_glue_32 (by decide)
theorem eX7_glue_33 : wX7_glue B ad K 33 L r σ ↔ wX7_glue B ad K 35 L (.int 1000000 :: r) σ := xr_ldc dX7_glue_33 rfl
theorem eX7_glue_35 {v0 v1 v2 : Value} : wX7_glue B ad K 35 L (v2 :: v1 :: v0 :: r) σ ↔ ((r.map fun v => v.category).sum ≤ 8 ∧ x_cl (eX7_within B ad) [v0, v1, v2] σ (fun v g => wX7_glue B ad K 38 L (v.toList ++ r) g)) := xr_callS [v0, v1, v2] r dX7_glue_35 rfl
theorem eX7_glue_38 {x : Int32} : wX7_glue B ad K 38 L (.int x :: r) σ ↔ (if x = 0 then wX7_glue B ad K 41 L r σ else wX7_glue B ad K 44 L r σ) := (xr_if_ne dX7_glue_38 (by decide)).trans x_ite
theorem eX7_glue_41 : wX7_glue B ad K 41 L r σ ↔ wX7_glue B ad K 43 L (.int (-2) :: r) σ := xr_bipush dX7_glue_41 (by decide)
theorem eX7_glue_43 {x : Int32} : wX7_glue B ad K 43 L [.int x] σ ↔ K (some (.int x)) σ := xr_ireturn dX7_glue_43
theorem eX7_glue_44 : wX7_glue B ad K 44 L r σ ↔ ∃ v, L[0]? = some v ∧ x_rfv v ∧ wX7_glue B ad K 45 L (v :: r) σ := xr_aload_n dX7_glue_44
theorem eX7_glue_45 {a : Nat} : wX7_glue B ad K 45 L (.ref a :: r) σ ↔ ∃ fs v, σ.1 a = some (7, fs) ∧ fs[1]? = some v ∧ wX7_glue B ad K 48 L (v :: r) σ := xr_getfield (t := 7) (j := 1) dX7_glue_45 rfl
theorem eX7_glue_48 : wX7_glue B ad K 48 L r σ ↔ wX7_glue B ad K 51 L (.int 400 :: r) σ := xr_sipush dX7_glue_48 (by decide)
theorem eX7_glue_51 {x y : Int32} : wX7_glue B ad K 51 L (.int y :: .int x :: r) σ ↔ (if x.toInt < y.toInt then wX7_glue B ad K 57 L r σ else wX7_glue B ad K 54 L r σ) := (xr_icmp_lt dX7_glue_51 (by decide)).trans x_ite
theorem eX7_glue_54 : wX7_glue B ad K 54 L r σ ↔ wX7_glue B ad K 56 L (.int (-4) :: r) σ := xr_bipush dX7_glue_54 (by decide)
theorem eX7_glue_56 {x : Int32} : wX7_glue B ad K 56 L [.int x] σ ↔ K (some (.int x)) σ := xr_ireturn dX7_glue_56
theorem eX7_glue_57 : wX7_glue B ad K 57 L r σ ↔ wX7_glue B ad K 60 L (.ref σ.2.1 :: r) (x_up σ.1 σ.2.1 (3, [.int 0, .null, .int 0, .int 0, .int 0, .int 0, .int 0, .null, .int 0, .int 0, .int 0, .int 0, .long 0]), σ.2.1 + 1, σ.2.2 + 13) := xr_new (t := 3) dX7_glue_57 rfl
theorem eX7_glue_60 {v : Value} : wX7_glue B ad K 60 L (v :: r) σ ↔ (v.category = 1 ∧ wX7_glue B ad K 61 L (v :: v :: r) σ) := xr_dup dX7_glue_60
theorem eX7_glue_61 : wX7_glue B ad K 61 L r σ ↔ ∃ v, L[0]? = some v ∧ x_rfv v ∧ wX7_glue B ad K 62 L (v :: r) σ := xr_aload_n dX7_glue_61
theorem eX7_glue_62 {a : Nat} : wX7_glue B ad K 62 L (.ref a :: r) σ ↔ ∃ fs v, σ.1 a = some (7, fs) ∧ fs[1]? = some v ∧ wX7_glue B ad K 65 L (v :: r) σ := xr_getfield (t := 7) (j := 1) dX7_glue_62 rfl
theorem eX7_glue_65 : wX7_glue B ad K 65 L r σ ↔ wX7_glue B ad K 68 L (.ref (ad 1) :: r) σ := xr_gets dX7_glue_65 rfl
theorem eX7_glue_68 : wX7_glue B ad K 68 L r σ ↔ ∃ v, L[1]? = some (.int v) ∧ wX7_glue B ad K 69 L (.int v :: r) σ := xr_iload_n dX7_glue_68
theorem eX7_glue_69 {v0 v1 v2 v3 : Value} : wX7_glue B ad K 69 L (v3 :: v2 :: v1 :: v0 :: r) σ ↔ ((r.map fun v => v.category).sum ≤ 8 ∧ x_cl (x_n1 (eX2_init B ad)) [v0, v1, v2, v3] σ (fun v g => wX7_glue B ad K 72 L (v.toList ++ r) g)) := xr_callI [v0, v1, v2, v3] r dX7_glue_69 rfl
theorem eX7_glue_72 {v : Value} : wX7_glue B ad K 72 L (v :: r) σ ↔ (x_rfv v ∧ 5 < L.length ∧ x_nl L 5 ∧ wX7_glue B ad K 74 (L.set 5 v) r σ) := xr_astore dX7_glue_72
theorem eX7_glue_74 : wX7_glue B ad K 74 L r σ ↔ ∃ v, L[5]? = some v ∧ x_rfv v ∧ wX7_glue B ad K 76 L (v :: r) σ := xr_aload dX7_glue_74
theorem eX7_glue_76 : wX7_glue B ad K 76 L r σ ↔ ∃ v, L[2]? = some (.int v) ∧ wX7_glue B ad K 77 L (.int v :: r) σ := xr_iload_n dX7_glue_76
theorem eX7_glue_77 {x : Int32} {a : Nat} : wX7_glue B ad K 77 L (.int x :: .ref a :: r) σ ↔ ∃ fs, σ.1 a = some (3, fs) ∧ 4 < fs.length ∧ B ≤ a ∧ wX7_glue B ad K 80 L r (x_up σ.1 a (3, fs.set 4 (.int x)), σ.2) := xr_put_i (t := 3) (j := 4) dX7_glue_77 rfl (by decide)
theorem eX7_glue_80 : wX7_glue B ad K 80 L r σ ↔ ∃ v, L[5]? = some v ∧ x_rfv v ∧ wX7_glue B ad K 82 L (v :: r) σ := xr_aload dX7_glue_80
theorem eX7_glue_82 : wX7_glue B ad K 82 L r σ ↔ ∃ v, L[3]? = some (.int v) ∧ wX7_glue B ad K 83 L (.int v :: r) σ := xr_iload_n dX7_glue_82
theorem eX7_glue_83 {x : Int32} {a : Nat} : wX7_glue B ad K 83 L (.int x :: .ref a :: r) σ ↔ ∃ fs, σ.1 a = some (3, fs) ∧ 5 < fs.length ∧ B ≤ a ∧ wX7_glue B ad K 86 L r (x_up σ.1 a (3, fs.set 5 (.int x)), σ.2) := xr_put_i (t := 3) (j := 5) dX7_glue_83 rfl (by decide)
theorem eX7_glue_86 : wX7_glue B ad K 86 L r σ ↔ ∃ v, L[5]? = some v ∧ x_rfv v ∧ wX7_glue B ad K 88 L (v :: r) σ := xr_aload dX7_glue_86
theorem eX7_glue_88 : wX7_glue B ad K 88 L r σ ↔ ∃ v, L[4]? = some (.int v) ∧ wX7_glue B ad K 90 L (.int v :: r) σ := xr_iload dX7_glue_88
theorem eX7_glue_90 {x : Int32} {a : Nat} : wX7_glue B ad K 90 L (.int x :: .ref a :: r) σ ↔ ∃ fs, σ.1 a = some (3, fs) ∧ 6 < fs.length ∧ B ≤ a ∧ wX7_glue B ad K 93 L r (x_up σ.1 a (3, fs.set 6 (.int x)), σ.2) := xr_put_i (t := 3) (j := 6) dX7_glue_90 rfl (by decide)
theorem eX7_glue_93 : wX7_glue B ad K 93 L r σ ↔ ∃ v, L[0]? = some v ∧ x_rfv v ∧ wX7_glue B ad K 94 L (v :: r) σ := xr_aload_n dX7_glue_93
theorem eX7_glue_94 : wX7_glue B ad K 94 L r σ ↔ ∃ v, L[5]? = some v ∧ x_rfv v ∧ wX7_glue B ad K 96 L (v :: r) σ := xr_aload dX7_glue_94
theorem eX7_glue_96 {v0 v1 : Value} : wX7_glue B ad K 96 L (v1 :: v0 :: r) σ ↔ ((r.map fun v => v.category).sum ≤ 8 ∧ x_cl (x_v 7 (eX7_addToLine B ad)) [v0, v1] σ (fun v g => wX7_glue B ad K 99 L (v.toList ++ r) g)) := xr_callV [v0, v1] r dX7_glue_96 rfl
theorem eX7_glue_99 {x : Int32} : wX7_glue B ad K 99 L [.int x] σ ↔ K (some (.int x)) σ := xr_ireturn dX7_glue_99
end
abbrev wX7_kern (B : Nat) (ad : Nat → Nat) (K : xK) : Nat → List Value → List Value → xW → Prop := x_WP B (some .int) (cxX7_kern B ad) cX7_kern K
section
variable {B : Nat} {ad : Nat → Nat} {K : xK} {L r : List Value} {σ : xW}
theorem eX7_kern_0 : wX7_kern B ad K 0 L r σ ↔ ∃ v, L[1]? = some (.int v) ∧ wX7_kern B ad K 1 L (.int v :: r) σ := xr_iload_n dX7_kern_0
theorem eX7_kern_1 : wX7_kern B ad K 1 L r σ ↔ wX7_kern B ad K 3 L (.int (-1000000) :: r) σ := xr_ldc dX7_kern_1 rfl
theorem eX7_kern_3 : wX7_kern B ad K 3 L r σ ↔ wX7_kern B ad K 5 L (.int 1000000 :: r) σ := xr_ldc dX7_kern_3 rfl
theorem eX7_kern_5 {v0 v1 v2 : Value} : wX7_kern B ad K 5 L (v2 :: v1 :: v0 :: r) σ ↔ ((r.map fun v => v.category).sum ≤ 8 ∧ x_cl (eX7_within B ad) [v0, v1, v2] σ (fun v g => wX7_kern B ad K 8 L (v.toList ++ r) g)) := xr_callS [v0, v1, v2] r dX7_kern_5 rfl
theorem eX7_kern_8 {x : Int32} : wX7_kern B ad K 8 L (.int x :: r) σ ↔ (if x = 0 then wX7_kern B ad K 11 L r σ else wX7_kern B ad K 14 L r σ) := (xr_if_ne dX7_kern_8 (by decide)).trans x_ite
theorem eX7_kern_11 : wX7_kern B ad K 11 L r σ ↔ wX7_kern B ad K 13 L (.int (-2) :: r) σ := xr_bipush dX7_kern_11 (by decide)
theorem eX7_kern_13 {x : Int32} : wX7_kern B ad K 13 L [.int x] σ ↔ K (some (.int x)) σ := xr_ireturn dX7_kern_13
theorem eX7_kern_14 : wX7_kern B ad K 14 L r σ ↔ ∃ v, L[0]? = some v ∧ x_rfv v ∧ wX7_kern B ad K 15 L (v :: r) σ := xr_aload_n dX7_kern_14
theorem eX7_kern_15 {a : Nat} : wX7_kern B ad K 15 L (.ref a :: r) σ ↔ ∃ fs v, σ.1 a = some (7, fs) ∧ fs[1]? = some v ∧ wX7_kern B ad K 18 L (v :: r) σ := xr_getfield (t := 7) (j := 1) dX7_kern_15 rfl
theorem eX7_kern_18 : wX7_kern B ad K 18 L r σ ↔ wX7_kern B ad K 21 L (.int 400 :: r) σ := xr_sipush dX7_kern_18 (by decide)
theorem eX7_kern_21 {x y : Int32} : wX7_kern B ad K 21 L (.int y :: .int x :: r) σ ↔ (if x.toInt < y.toInt then wX7_kern B ad K 27 L r σ else wX7_kern B ad K 24 L r σ) := (xr_icmp_lt dX7_kern_21 (by decide)).trans x_ite
theorem eX7_kern_24 : wX7_kern B ad K 24 L r σ ↔ wX7_kern B ad K 26 L (.int (-4) :: r) σ := xr_bipush dX7_kern_24 (by decide)
theorem eX7_kern_26 {x : Int32} : wX7_kern B ad K 26 L [.int x] σ ↔ K (some (.int x)) σ := xr_ireturn dX7_kern_26
theorem eX7_kern_27 : wX7_kern B ad K 27 L r σ ↔ ∃ v, L[0]? = some v ∧ x_rfv v ∧ wX7_kern B ad K 28 L (v :: r) σ := xr_aload_n dX7_kern_27
theorem eX7_kern_28 : wX7_kern B ad K 28 L r σ ↔ wX7_kern B ad K 31 L (.ref σ.2.1 :: r) (x_up σ.1 σ.2.1 (3, [.int 0, .null, .int 0, .int 0, .int 0, .int 0, .int 0, .null, .int 0, .int 0, .int 0, .int 0, .long 0]), σ.2.1 + 1, σ.2.2 + 13) := xr_new (t := 3) dX7_kern_28 rfl
theorem eX7_kern_31 {v : Value} : wX7_kern B ad K 31 L (v :: r) σ ↔ (v.category = 1 ∧ wX7_kern B ad K 32 L (v :: v :: r) σ) := xr_dup dX7_kern_31
theorem eX7_kern_32 : wX7_kern B ad K 32 L r σ ↔ ∃ v, L[0]? = some v ∧ x_rfv v ∧ wX7_kern B ad K 33 L (v :: r) σ := xr_aload_n dX7_kern_32
theorem eX7_kern_33 {a : Nat} : wX7_kern B ad K 33 L (.ref a :: r) σ ↔ ∃ fs v, σ.1 a = some (7, fs) ∧ fs[1]? = some v ∧ wX7_kern B ad K 36 L (v :: r) σ := xr_getfield (t := 7) (j := 1) dX7_kern_33 rfl
theorem eX7_kern_36 : wX7_kern B ad K 36 L r σ ↔ wX7_kern B ad K 39 L (.ref (ad 2) :: r) σ := xr_gets dX7_kern_36 rfl
theorem eX7_kern_39 : wX7_kern B ad K 39 L r σ ↔ ∃ v, L[1]? = some (.int v) ∧ wX7_kern B ad K 40 L (.int v :: r) σ := xr_iload_n dX7_kern_39
theorem eX7_kern_40 {v0 v1 v2 v3 : Value} : wX7_kern B ad K 40 L (v3 :: v2 :: v1 :: v0 :: r) σ ↔ ((r.map fun v => v.category).sum ≤ 8 ∧ x_cl (x_n1 (eX2_init B ad)) [v0, v1, v2, v3] σ (fun v g => wX7_kern B ad K 43 L (v.toList ++ r) g)) := xr_callI [v0, v1, v2, v3] r dX7_kern_40 rfl
theorem eX7_kern_43 {v0 v1 : Value} : wX7_kern B ad K 43 L (v1 :: v0 :: r) σ ↔ ((r.map fun v => v.category).sum ≤ 8 ∧ x_cl (x_v 7 (eX7_addToLine B ad)) [v0, v1] σ (fun v g => wX7_kern B ad K 46 L (v.toList ++ r) g)) := xr_callV [v0, v1] r dX7_kern_43 rfl
theorem eX7_kern_46 {x : Int32} : wX7_kern B ad K 46 L [.int x] σ ↔ K (some (.int x)) σ := xr_ireturn dX7_kern_46
end
abbrev wX7_penalty (B : Nat) (ad : Nat → Nat) (K : xK) : Nat → List Value → List Value → xW → Prop := x_WP B (some .int) (cxX7_penalty B ad) cX7_penalty K
section
variable {B : Nat} {ad : Nat → Nat} {K : xK} {L r : List Value} {σ : xW}
theorem eX7_penalty_0 : wX7_penalty B ad K 0 L r σ ↔ ∃ v, L[1]? = some (.int v) ∧ wX7_penalty B ad K 1 L (.int v :: r) σ := xr_iload_n dX7_penalty_0
theorem eX7_penalty_1 : wX7_penalty B ad K 1 L r σ ↔ wX7_penalty B ad K 4 L (.int (-10000) :: r) σ := xr_sipush dX7_penalty_1 (by decide)
theorem eX7_penalty_4 : wX7_penalty B ad K 4 L r σ ↔ wX7_penalty B ad K 7 L (.int 10000 :: r) σ := xr_sipush dX7_penalty_4 (by decide)
theorem eX7_penalty_7 {v0 v1 v2 : Value} : wX7_penalty B ad K 7 L (v2 :: v1 :: v0 :: r) σ ↔ ((r.map fun v => v.category).sum ≤ 8 ∧ x_cl (eX7_within B ad) [v0, v1, v2] σ (fun v g => wX7_penalty B ad K 10 L (v.toList ++ r) g)) := xr_callS [v0, v1, v2] r dX7_penalty_7 rfl
theorem eX7_penalty_10 {x : Int32} : wX7_penalty B ad K 10 L (.int x :: r) σ ↔ (if x = 0 then wX7_penalty B ad K 13 L r σ else wX7_penalty B ad K 16 L r σ) := (xr_if_ne dX7_penalty_10 (by decide)).trans x_ite
theorem eX7_penalty_13 : wX7_penalty B ad K 13 L r σ ↔ wX7_penalty B ad K 15 L (.int (-2) :: r) σ := xr_bipush dX7_penalty_13 (by decide)
theorem eX7_penalty_15 {x : Int32} : wX7_penalty B ad K 15 L [.int x] σ ↔ K (some (.int x)) σ := xr_ireturn dX7_penalty_15
theorem eX7_penalty_16 : wX7_penalty B ad K 16 L r σ ↔ ∃ v, L[0]? = some v ∧ x_rfv v ∧ wX7_penalty B ad K 17 L (v :: r) σ := xr_aload_n dX7_penalty_16
theorem eX7_penalty_17 {a : Nat} : wX7_penalty B ad K 17 L (.ref a :: r) σ ↔ ∃ fs v, σ.1 a = some (7, fs) ∧ fs[1]? = some v ∧ wX7_penalty B ad K 20 L (v :: r) σ := xr_getfield (t := 7) (j := 1) dX7_penalty_17 rfl
theorem eX7_penalty_20 : wX7_penalty B ad K 20 L r σ ↔ wX7_penalty B ad K 23 L (.int 400 :: r) σ := xr_sipush dX7_penalty_20 (by decide)
theorem eX7_penalty_23 {x y : Int32} : wX7_penalty B ad K 23 L (.int y :: .int x :: r) σ ↔ (if x.toInt < y.toInt then wX7_penalty B ad K 29 L r σ else wX7_penalty B ad K 26 L r σ) := (xr_icmp_lt dX7_penalty_23 (by decide)).trans x_ite
theorem eX7_penalty_26 : wX7_penalty B ad K 26 L r σ ↔ wX7_penalty B ad K 28 L (.int (-4) :: r) σ := xr_bipush dX7_penalty_26 (by decide)
theorem eX7_penalty_28 {x : Int32} : wX7_penalty B ad K 28 L [.int x] σ ↔ K (some (.int x)) σ := xr_ireturn dX7_penalty_28
theorem eX7_penalty_29 : wX7_penalty B ad K 29 L r σ ↔ ∃ v, L[0]? = some v ∧ x_rfv v ∧ wX7_penalty B ad K 30 L (v :: r) σ := xr_aload_n dX7_penalty_29
theorem eX7_penalty_30 : wX7_penalty B ad K 30 L r σ ↔ wX7_penalty B ad K 33 L (.ref σ.2.1 :: r) (x_up σ.1 σ.2.1 (3, [.int 0, .null, .int 0, .int 0, .int 0, .int 0, .int 0, .null, .int 0, .int 0, .int 0, .int 0, .long 0]), σ.2.1 + 1, σ.2.2 + 13) := xr_new (t := 3) dX7_penalty_30 rfl
theorem eX7_penalty_33 {v : Value} : wX7_penalty B ad K 33 L (v :: r) σ ↔ (v.category = 1 ∧ wX7_penalty B ad K 34 L (v :: v :: r) σ) := xr_dup dX7_penalty_33
theorem eX7_penalty_34 : wX7_penalty B ad K 34 L r σ ↔ ∃ v, L[0]? = some v ∧ x_rfv v ∧ wX7_penalty B ad K 35 L (v :: r) σ := xr_aload_n dX7_penalty_34
theorem eX7_penalty_35 {a : Nat} : wX7_penalty B ad K 35 L (.ref a :: r) σ ↔ ∃ fs v, σ.1 a = some (7, fs) ∧ fs[1]? = some v ∧ wX7_penalty B ad K 38 L (v :: r) σ := xr_getfield (t := 7) (j := 1) dX7_penalty_35 rfl
theorem eX7_penalty_38 : wX7_penalty B ad K 38 L r σ ↔ wX7_penalty B ad K 41 L (.ref (ad 3) :: r) σ := xr_gets dX7_penalty_38 rfl
theorem eX7_penalty_41 : wX7_penalty B ad K 41 L r σ ↔ ∃ v, L[1]? = some (.int v) ∧ wX7_penalty B ad K 42 L (.int v :: r) σ := xr_iload_n dX7_penalty_41
theorem eX7_penalty_42 {v0 v1 v2 v3 : Value} : wX7_penalty B ad K 42 L (v3 :: v2 :: v1 :: v0 :: r) σ ↔ ((r.map fun v => v.category).sum ≤ 8 ∧ x_cl (x_n1 (eX2_init B ad)) [v0, v1, v2, v3] σ (fun v g => wX7_penalty B ad K 45 L (v.toList ++ r) g)) := xr_callI [v0, v1, v2, v3] r dX7_penalty_42 rfl
theorem eX7_penalty_45 {v0 v1 : Value} : wX7_penalty B ad K 45 L (v1 :: v0 :: r) σ ↔ ((r.map fun v => v.category).sum ≤ 8 ∧ x_cl (x_v 7 (eX7_addToLine B ad)) [v0, v1] σ (fun v g => wX7_penalty B ad K 48 L (v.toList ++ r) g)) := xr_callV [v0, v1] r dX7_penalty_45 rfl
theorem eX7_penalty_48 {x : Int32} : wX7_penalty B ad K 48 L [.int x] σ ↔ K (some (.int x)) σ := xr_ireturn dX7_penalty_48
end
abbrev wX7_insert (B : Nat) (ad : Nat → Nat) (K : xK) : Nat → List Value → List Value → xW → Prop := x_WP B (some .int) (cxX7_insert B ad) cX7_insert K
section
variable {B : Nat} {ad : Nat → Nat} {K : xK} {L r : List Value} {σ : xW}
theorem eX7_insert_0 : wX7_insert B ad K 0 L r σ ↔ ∃ v, L[1]? = some (.int v) ∧ wX7_insert B ad K 1 L (.int v :: r) σ := xr_iload_n dX7_insert_0
theorem eX7_insert_1 : wX7_insert B ad K 1 L r σ ↔ wX7_insert B ad K 2 L (.int 0 :: r) σ := xr_iconst dX7_insert_1 (by decide)
theorem eX7_insert_2 : wX7_insert B ad K 2 L r σ ↔ ∃ v, L[0]? = some v ∧ x_rfv v ∧ wX7_insert B ad K 3 L (v :: r) σ := xr_aload_n dX7_insert_2
theorem eX7_insert_3 {a : Nat} : wX7_insert B ad K 3 L (.ref a :: r) σ ↔ ∃ fs v, σ.1 a = some (7, fs) ∧ fs[3]? = some v ∧ wX7_insert B ad K 6 L (v :: r) σ := xr_getfield (t := 7) (j := 3) dX7_insert_3 rfl
theorem eX7_insert_6 : wX7_insert B ad K 6 L r σ ↔ wX7_insert B ad K 7 L (.int 1 :: r) σ := xr_iconst dX7_insert_6 (by decide)
theorem eX7_insert_7 {x y : Int32} : wX7_insert B ad K 7 L (.int y :: .int x :: r) σ ↔ wX7_insert B ad K 8 L (.int (x - y) :: r) σ := xr_isub dX7_insert_7
theorem eX7_insert_8 {v0 v1 v2 : Value} : wX7_insert B ad K 8 L (v2 :: v1 :: v0 :: r) σ ↔ ((r.map fun v => v.category).sum ≤ 8 ∧ x_cl (eX7_within B ad) [v0, v1, v2] σ (fun v g => wX7_insert B ad K 11 L (v.toList ++ r) g)) := xr_callS [v0, v1, v2] r dX7_insert_8 rfl
theorem eX7_insert_11 {x : Int32} : wX7_insert B ad K 11 L (.int x :: r) σ ↔ (if x = 0 then wX7_insert B ad K 14 L r σ else wX7_insert B ad K 16 L r σ) := (xr_if_ne dX7_insert_11 (by decide)).trans x_ite
theorem eX7_insert_14 : wX7_insert B ad K 14 L r σ ↔ wX7_insert B ad K 15 L (.int (-1) :: r) σ := xr_iconst dX7_insert_14 (by decide)
theorem eX7_insert_15 {x : Int32} : wX7_insert B ad K 15 L [.int x] σ ↔ K (some (.int x)) σ := xr_ireturn dX7_insert_15
theorem eX7_insert_16 : wX7_insert B ad K 16 L r σ ↔ ∃ v, L[2]? = some (.int v) ∧ wX7_insert B ad K 17 L (.int v :: r) σ := xr_iload_n dX7_insert_16
theorem eX7_insert_17 : wX7_insert B ad K 17 L r σ ↔ wX7_insert B ad K 18 L (.int 1 :: r) σ := xr_iconst dX7_insert_17 (by decide)
theorem eX7_insert_18 : wX7_insert B ad K 18 L r σ ↔ wX7_insert B ad K 20 L (.int 1000000 :: r) σ := xr_ldc dX7_insert_18 rfl
theorem eX7_insert_20 {v0 v1 v2 : Value} : wX7_insert B ad K 20 L (v2 :: v1 :: v0 :: r) σ ↔ ((r.map fun v => v.category).sum ≤ 8 ∧ x_cl (eX7_within B ad) [v0, v1, v2] σ (fun v g => wX7_insert B ad K 23 L (v.toList ++ r) g)) := xr_callS [v0, v1, v2] r dX7_insert_20 rfl
theorem eX7_insert_23 {x : Int32} : wX7_insert B ad K 23 L (.int x :: r) σ ↔ (if x = 0 then wX7_insert B ad K 26 L r σ else wX7_insert B ad K 29 L r σ) := (xr_if_ne dX7_insert_23 (by decide)).trans x_ite
theorem eX7_insert_26 : wX7_insert B ad K 26 L r σ ↔ wX7_insert B ad K 28 L (.int (-2) :: r) σ := xr_bipush dX7_insert_26 (by decide)
theorem eX7_insert_28 {x : Int32} : wX7_insert B ad K 28 L [.int x] σ ↔ K (some (.int x)) σ := xr_ireturn dX7_insert_28
theorem eX7_insert_29 : wX7_insert B ad K 29 L r σ ↔ ∃ v, L[0]? = some v ∧ x_rfv v ∧ wX7_insert B ad K 30 L (v :: r) σ := xr_aload_n dX7_insert_29
theorem eX7_insert_30 {a : Nat} : wX7_insert B ad K 30 L (.ref a :: r) σ ↔ ∃ fs v, σ.1 a = some (7, fs) ∧ fs[1]? = some v ∧ wX7_insert B ad K 33 L (v :: r) σ := xr_getfield (t := 7) (j := 1) dX7_insert_30 rfl
theorem eX7_insert_33 : wX7_insert B ad K 33 L r σ ↔ wX7_insert B ad K 36 L (.int 400 :: r) σ := xr_sipush dX7_insert_33 (by decide)
theorem eX7_insert_36 {x y : Int32} : wX7_insert B ad K 36 L (.int y :: .int x :: r) σ ↔ (if x.toInt < y.toInt then wX7_insert B ad K 42 L r σ else wX7_insert B ad K 39 L r σ) := (xr_icmp_lt dX7_insert_36 (by decide)).trans x_ite
theorem eX7_insert_39 : wX7_insert B ad K 39 L r σ ↔ wX7_insert B ad K 41 L (.int (-4) :: r) σ := xr_bipush dX7_insert_39 (by decide)
theorem eX7_insert_41 {x : Int32} : wX7_insert B ad K 41 L [.int x] σ ↔ K (some (.int x)) σ := xr_ireturn dX7_insert_41
theorem eX7_insert_42 : wX7_insert B ad K 42 L r σ ↔ wX7_insert B ad K 45 L (.ref σ.2.1 :: r) (x_up σ.1 σ.2.1 (3, [.int 0, .null, .int 0, .int 0, .int 0, .int 0, .int 0, .null, .int 0, .int 0, .int 0, .int 0, .long 0]), σ.2.1 + 1, σ.2.2 + 13) := xr_new (t := 3) dX7_insert_42 rfl
theorem eX7_insert_45 {v : Value} : wX7_insert B ad K 45 L (v :: r) σ ↔ (v.category = 1 ∧ wX7_insert B ad K 46 L (v :: v :: r) σ) := xr_dup dX7_insert_45
theorem eX7_insert_46 : wX7_insert B ad K 46 L r σ ↔ ∃ v, L[0]? = some v ∧ x_rfv v ∧ wX7_insert B ad K 47 L (v :: r) σ := xr_aload_n dX7_insert_46
theorem eX7_insert_47 {a : Nat} : wX7_insert B ad K 47 L (.ref a :: r) σ ↔ ∃ fs v, σ.1 a = some (7, fs) ∧ fs[1]? = some v ∧ wX7_insert B ad K 50 L (v :: r) σ := xr_getfield (t := 7) (j := 1) dX7_insert_47 rfl
theorem eX7_insert_50 : wX7_insert B ad K 50 L r σ ↔ wX7_insert B ad K 53 L (.ref (ad 4) :: r) σ := xr_gets dX7_insert_50 rfl
theorem eX7_insert_53 : wX7_insert B ad K 53 L r σ ↔ ∃ v, L[2]? = some (.int v) ∧ wX7_insert B ad K 54 L (.int v :: r) σ := xr_iload_n dX7_insert_53
theorem eX7_insert_54 {v0 v1 v2 v3 : Value} : wX7_insert B ad K 54 L (v3 :: v2 :: v1 :: v0 :: r) σ ↔ ((r.map fun v => v.category).sum ≤ 8 ∧ x_cl (x_n1 (eX2_init B ad)) [v0, v1, v2, v3] σ (fun v g => wX7_insert B ad K 57 L (v.toList ++ r) g)) := xr_callI [v0, v1, v2, v3] r dX7_insert_54 rfl
theorem eX7_insert_57 {v : Value} : wX7_insert B ad K 57 L (v :: r) σ ↔ (x_rfv v ∧ 4 < L.length ∧ x_nl L 4 ∧ wX7_insert B ad K 59 (L.set 4 v) r σ) := xr_astore dX7_insert_57
theorem eX7_insert_59 : wX7_insert B ad K 59 L r σ ↔ ∃ v, L[4]? = some v ∧ x_rfv v ∧ wX7_insert B ad K 61 L (v :: r) σ := xr_aload dX7_insert_59
theorem eX7_insert_61 : wX7_insert B ad K 61 L r σ ↔ ∃ v, L[0]? = some v ∧ x_rfv v ∧ wX7_insert B ad K 62 L (v :: r) σ := xr_aload_n dX7_insert_61
theorem eX7_insert_62 {a : Nat} : wX7_insert B ad K 62 L (.ref a :: r) σ ↔ ∃ fs v, σ.1 a = some (7, fs) ∧ fs[2]? = some v ∧ wX7_insert B ad K 65 L (v :: r) σ := xr_getfield (t := 7) (j := 2) dX7_insert_62 rfl
theorem eX7_insert_65 : wX7_insert B ad K 65 L r σ ↔ ∃ v, L[1]? = some (.int v) ∧ wX7_insert B ad K 66 L (.int v :: r) σ := xr_iload_n dX7_insert_65
theorem eX7_insert_66 {a : Nat} {x : Int32} : wX7_insert B ad K 66 L (.int x :: .ref a :: r) σ ↔ ∃ t V v, σ.1 a = some (t, V) ∧ (t = 103 ∨ t = 104 ∨ t = 105) ∧ x_ix x V = some v ∧ wX7_insert B ad K 67 L (v :: r) σ := xr_aaload dX7_insert_66
theorem eX7_insert_67 {v : Value} {a : Nat} : wX7_insert B ad K 67 L (v :: .ref a :: r) σ ↔ ∃ fs, σ.1 a = some (3, fs) ∧ 7 < fs.length ∧ B ≤ a ∧ x_rfv v ∧ wX7_insert B ad K 70 L r (x_up σ.1 a (3, fs.set 7 (v)), σ.2) := xr_put_o (t := 3) (j := 7) dX7_insert_67 rfl (by decide)
theorem eX7_insert_70 : wX7_insert B ad K 70 L r σ ↔ ∃ v, L[4]? = some v ∧ x_rfv v ∧ wX7_insert B ad K 72 L (v :: r) σ := xr_aload dX7_insert_70
theorem eX7_insert_72 : wX7_insert B ad K 72 L r σ ↔ ∃ v, L[3]? = some (.int v) ∧ wX7_insert B ad K 73 L (.int v :: r) σ := xr_iload_n dX7_insert_72
theorem eX7_insert_73 {x : Int32} {a : Nat} : wX7_insert B ad K 73 L (.int x :: .ref a :: r) σ ↔ ∃ fs, σ.1 a = some (3, fs) ∧ 8 < fs.length ∧ B ≤ a ∧ (x = 0 ∨ x = 1) ∧ wX7_insert B ad K 76 L r (x_up σ.1 a (3, fs.set 8 (.int x)), σ.2) := xr_put_z (t := 3) (j := 8) dX7_insert_73 rfl (by decide)
theorem eX7_insert_76 : wX7_insert B ad K 76 L r σ ↔ ∃ v, L[4]? = some v ∧ x_rfv v ∧ wX7_insert B ad K 78 L (v :: r) σ := xr_aload dX7_insert_76
theorem eX7_insert_78 : wX7_insert B ad K 78 L r σ ↔ ∃ v, L[2]? = some (.int v) ∧ wX7_insert B ad K 79 L (.int v :: r) σ := xr_iload_n dX7_insert_78
theorem eX7_insert_79 {x : Int32} {a : Nat} : wX7_insert B ad K 79 L (.int x :: .ref a :: r) σ ↔ ∃ fs, σ.1 a = some (3, fs) ∧ 9 < fs.length ∧ B ≤ a ∧ wX7_insert B ad K 82 L r (x_up σ.1 a (3, fs.set 9 (.int x)), σ.2) := xr_put_i (t := 3) (j := 9) dX7_insert_79 rfl (by decide)
theorem eX7_insert_82 : wX7_insert B ad K 82 L r σ ↔ ∃ v, L[0]? = some v ∧ x_rfv v ∧ wX7_insert B ad K 83 L (v :: r) σ := xr_aload_n dX7_insert_82
theorem eX7_insert_83 : wX7_insert B ad K 83 L r σ ↔ ∃ v, L[4]? = some v ∧ x_rfv v ∧ wX7_insert B ad K 85 L (v :: r) σ := xr_aload dX7_insert_83
theorem eX7_insert_85 {v0 v1 : Value} : wX7_insert B ad K 85 L (v1 :: v0 :: r) σ ↔ ((r.map fun v => v.category).sum ≤ 8 ∧ x_cl (x_v 7 (eX7_addToLine B ad)) [v0, v1] σ (fun v g => wX7_insert B ad K 88 L (v.toList ++ r) g)) := xr_callV [v0, v1] r dX7_insert_85 rfl
theorem eX7_insert_88 {x : Int32} : wX7_insert B ad K 88 L [.int x] σ ↔ K (some (.int x)) σ := xr_ireturn dX7_insert_88
end
abbrev wX7_mark (B : Nat) (ad : Nat → Nat) (K : xK) : Nat → List Value → List Value → xW → Prop := x_WP B (some .int) (cxX7_mark B ad) cX7_mark K
section
variable {B : Nat} {ad : Nat → Nat} {K : xK} {L r : List Value} {σ : xW}
theorem eX7_mark_0 : wX7_mark B ad K 0 L r σ ↔ ∃ v, L[0]? = some v ∧ x_rfv v ∧ wX7_mark B ad K 1 L (v :: r) σ := xr_aload_n dX7_mark_0
theorem eX7_mark_1 {a : Nat} : wX7_mark B ad K 1 L (.ref a :: r) σ ↔ ∃ fs v, σ.1 a = some (7, fs) ∧ fs[1]? = some v ∧ wX7_mark B ad K 4 L (v :: r) σ := xr_getfield (t := 7) (j := 1) dX7_mark_1 rfl
theorem eX7_mark_4 : wX7_mark B ad K 4 L r σ ↔ wX7_mark B ad K 7 L (.int 400 :: r) σ := xr_sipush dX7_mark_4 (by decide)
theorem eX7_mark_7 {x y : Int32} : wX7_mark B ad K 7 L (.int y :: .int x :: r) σ ↔ (if x.toInt < y.toInt then wX7_mark B ad K 13 L r σ else wX7_mark B ad K 10 L r σ) := (xr_icmp_lt dX7_mark_7 (by decide)).trans x_ite
theorem eX7_mark_10 : wX7_mark B ad K 10 L r σ ↔ wX7_mark B ad K 12 L (.int (-4) :: r) σ := xr_bipush dX7_mark_10 (by decide)
theorem eX7_mark_12 {x : Int32} : wX7_mark B ad K 12 L [.int x] σ ↔ K (some (.int x)) σ := xr_ireturn dX7_mark_12
theorem eX7_mark_13 : wX7_mark B ad K 13 L r σ ↔ ∃ v, L[0]? = some v ∧ x_rfv v ∧ wX7_mark B ad K 14 L (v :: r) σ := xr_aload_n dX7_mark_13
theorem eX7_mark_14 : wX7_mark B ad K 14 L r σ ↔ wX7_mark B ad K 17 L (.ref σ.2.1 :: r) (x_up σ.1 σ.2.1 (3, [.int 0, .null, .int 0, .int 0, .int 0, .int 0, .int 0, .null, .int 0, .int 0, .int 0, .int 0, .long 0]), σ.2.1 + 1, σ.2.2 + 13) := xr_new (t := 3) dX7_mark_14 rfl
theorem eX7_mark_17 {v : Value} : wX7_mark B ad K 17 L (v :: r) σ ↔ (v.category = 1 ∧ wX7_mark B ad K 18 L (v :: v :: r) σ) := xr_dup dX7_mark_17
theorem eX7_mark_18 : wX7_mark B ad K 18 L r σ ↔ ∃ v, L[0]? = some v ∧ x_rfv v ∧ wX7_mark B ad K 19 L (v :: r) σ := xr_aload_n dX7_mark_18
theorem eX7_mark_19 {a : Nat} : wX7_mark B ad K 19 L (.ref a :: r) σ ↔ ∃ fs v, σ.1 a = some (7, fs) ∧ fs[1]? = some v ∧ wX7_mark B ad K 22 L (v :: r) σ := xr_getfield (t := 7) (j := 1) dX7_mark_19 rfl
theorem eX7_mark_22 : wX7_mark B ad K 22 L r σ ↔ wX7_mark B ad K 25 L (.ref (ad 5) :: r) σ := xr_gets dX7_mark_22 rfl
theorem eX7_mark_25 : wX7_mark B ad K 25 L r σ ↔ ∃ v, L[1]? = some (.int v) ∧ wX7_mark B ad K 26 L (.int v :: r) σ := xr_iload_n dX7_mark_25
theorem eX7_mark_26 {v0 v1 v2 v3 : Value} : wX7_mark B ad K 26 L (v3 :: v2 :: v1 :: v0 :: r) σ ↔ ((r.map fun v => v.category).sum ≤ 8 ∧ x_cl (x_n1 (eX2_init B ad)) [v0, v1, v2, v3] σ (fun v g => wX7_mark B ad K 29 L (v.toList ++ r) g)) := xr_callI [v0, v1, v2, v3] r dX7_mark_26 rfl
theorem eX7_mark_29 {v0 v1 : Value} : wX7_mark B ad K 29 L (v1 :: v0 :: r) σ ↔ ((r.map fun v => v.category).sum ≤ 8 ∧ x_cl (x_v 7 (eX7_addToLine B ad)) [v0, v1] σ (fun v g => wX7_mark B ad K 32 L (v.toList ++ r) g)) := xr_callV [v0, v1] r dX7_mark_29 rfl
theorem eX7_mark_32 {x : Int32} : wX7_mark B ad K 32 L [.int x] σ ↔ K (some (.int x)) σ := xr_ireturn dX7_mark_32
end
abbrev wX7_dropFirst (B : Nat) (ad : Nat → Nat) (K : xK) : Nat → List Value → List Value → xW → Prop := x_WP B none (cxX7_dropFirst B ad) cX7_dropFirst K
section
variable {B : Nat} {ad : Nat → Nat} {K : xK} {L r : List Value} {σ : xW}
theorem eX7_dropFirst_0 : wX7_dropFirst B ad K 0 L r σ ↔ ∃ v, L[0]? = some v ∧ x_rfv v ∧ wX7_dropFirst B ad K 1 L (v :: r) σ := xr_aload_n dX7_dropFirst_0
theorem eX7_dropFirst_1 {a : Nat} : wX7_dropFirst B ad K 1 L (.ref a :: r) σ ↔ ∃ fs v, σ.1 a = some (7, fs) ∧ fs[6]? = some v ∧ wX7_dropFirst B ad K 4 L (v :: r) σ := xr_getfield (t := 7) (j := 6) dX7_dropFirst_1 rfl
theorem eX7_dropFirst_4 {v0 : Value} : wX7_dropFirst B ad K 4 L (v0 :: r) σ ↔ ((r.map fun v => v.category).sum ≤ 8 ∧ x_cl (x_v 4 (eX4_takeFirst B ad)) [v0] σ (fun v g => wX7_dropFirst B ad K 7 L (v.toList ++ r) g)) := xr_callV [v0] r dX7_dropFirst_4 rfl
theorem eX7_dropFirst_7 {v : Value} : wX7_dropFirst B ad K 7 L (v :: r) σ ↔ (x_rfv v ∧ 1 < L.length ∧ x_nl L 1 ∧ wX7_dropFirst B ad K 8 (L.set 1 v) r σ) := xr_astore_n dX7_dropFirst_7
theorem eX7_dropFirst_8 : wX7_dropFirst B ad K 8 L r σ ↔ ∃ v, L[1]? = some v ∧ x_rfv v ∧ wX7_dropFirst B ad K 9 L (v :: r) σ := xr_aload_n dX7_dropFirst_8
theorem eX7_dropFirst_9 {v : Value} : wX7_dropFirst B ad K 9 L (v :: r) σ ↔ (x_rfv v ∧ (if v = .null then wX7_dropFirst B ad K 17 L r σ else wX7_dropFirst B ad K 12 L r σ)) := (xr_ifnull dX7_dropFirst_9 (by decide)).trans (and_congr_right fun _ => x_ite)
theorem eX7_dropFirst_12 : wX7_dropFirst B ad K 12 L r σ ↔ ∃ v, L[1]? = some v ∧ x_rfv v ∧ wX7_dropFirst B ad K 13 L (v :: r) σ := xr_aload_n dX7_dropFirst_12
theorem eX7_dropFirst_13 : wX7_dropFirst B ad K 13 L r σ ↔ wX7_dropFirst B ad K 14 L (.int 1 :: r) σ := xr_iconst dX7_dropFirst_13 (by decide)
theorem eX7_dropFirst_14 {x : Int32} {a : Nat} : wX7_dropFirst B ad K 14 L (.int x :: .ref a :: r) σ ↔ ∃ fs, σ.1 a = some (3, fs) ∧ 10 < fs.length ∧ B ≤ a ∧ (x = 0 ∨ x = 1) ∧ wX7_dropFirst B ad K 17 L r (x_up σ.1 a (3, fs.set 10 (.int x)), σ.2) := xr_put_z (t := 3) (j := 10) dX7_dropFirst_14 rfl (by decide)
theorem eX7_dropFirst_17 : wX7_dropFirst B ad K 17 L [] σ ↔ K none σ := xr_return dX7_dropFirst_17
end
abbrev wX7_endedPage (B : Nat) (ad : Nat → Nat) (K : xK) : Nat → List Value → List Value → xW → Prop := x_WP B (some (.object "PageBuilder$Page")) (cxX7_endedPage B ad) cX7_endedPage K
section
variable {B : Nat} {ad : Nat → Nat} {K : xK} {L r : List Value} {σ : xW}
theorem eX7_endedPage_0 : wX7_endedPage B ad K 0 L r σ ↔ ∃ v, L[1]? = some (.int v) ∧ wX7_endedPage B ad K 1 L (.int v :: r) σ := xr_iload_n dX7_endedPage_0
theorem eX7_endedPage_1 : wX7_endedPage B ad K 1 L r σ ↔ wX7_endedPage B ad K 2 L (.int 0 :: r) σ := xr_iconst dX7_endedPage_1 (by decide)
theorem eX7_endedPage_2 : wX7_endedPage B ad K 2 L r σ ↔ ∃ v, L[0]? = some v ∧ x_rfv v ∧ wX7_endedPage B ad K 3 L (v :: r) σ := xr_aload_n dX7_endedPage_2
theorem eX7_endedPage_3 {a : Nat} : wX7_endedPage B ad K 3 L (.ref a :: r) σ ↔ ∃ fs v, σ.1 a = some (7, fs) ∧ fs[5]? = some v ∧ wX7_endedPage B ad K 6 L (v :: r) σ := xr_getfield (t := 7) (j := 5) dX7_endedPage_3 rfl
theorem eX7_endedPage_6 : wX7_endedPage B ad K 6 L r σ ↔ wX7_endedPage B ad K 7 L (.int 1 :: r) σ := xr_iconst dX7_endedPage_6 (by decide)
theorem eX7_endedPage_7 {x y : Int32} : wX7_endedPage B ad K 7 L (.int y :: .int x :: r) σ ↔ wX7_endedPage B ad K 8 L (.int (x - y) :: r) σ := xr_isub dX7_endedPage_7
theorem eX7_endedPage_8 {v0 v1 v2 : Value} : wX7_endedPage B ad K 8 L (v2 :: v1 :: v0 :: r) σ ↔ ((r.map fun v => v.category).sum ≤ 8 ∧ x_cl (eX7_within B ad) [v0, v1, v2] σ (fun v g => wX7_endedPage B ad K 11 L (v.toList ++ r) g)) := xr_callS [v0, v1, v2] r dX7_endedPage_8 rfl
theorem eX7_endedPage_11 {x : Int32} : wX7_endedPage B ad K 11 L (.int x :: r) σ ↔ (if x = 0 then wX7_endedPage B ad K 23 L r σ else wX7_endedPage B ad K 14 L r σ) := (xr_if_eq dX7_endedPage_11 (by decide)).trans x_ite
theorem eX7_endedPage_14 : wX7_endedPage B ad K 14 L r σ ↔ ∃ v, L[0]? = some v ∧ x_rfv v ∧ wX7_endedPage B ad K 15 L (v :: r) σ := xr_aload_n dX7_endedPage_14
theorem eX7_endedPage_15 {a : Nat} : wX7_endedPage B ad K 15 L (.ref a :: r) σ ↔ ∃ fs v, σ.1 a = some (7, fs) ∧ fs[4]? = some v ∧ wX7_endedPage B ad K 18 L (v :: r) σ := xr_getfield (t := 7) (j := 4) dX7_endedPage_15 rfl
theorem eX7_endedPage_18 : wX7_endedPage B ad K 18 L r σ ↔ ∃ v, L[1]? = some (.int v) ∧ wX7_endedPage B ad K 19 L (.int v :: r) σ := xr_iload_n dX7_endedPage_18
theorem eX7_endedPage_19 {a : Nat} {x : Int32} : wX7_endedPage B ad K 19 L (.int x :: .ref a :: r) σ ↔ ∃ t V v, σ.1 a = some (t, V) ∧ (t = 103 ∨ t = 104 ∨ t = 105) ∧ x_ix x V = some v ∧ wX7_endedPage B ad K 20 L (v :: r) σ := xr_aaload dX7_endedPage_19
theorem eX7_endedPage_20 : wX7_endedPage B ad K 20 L r σ ↔ wX7_endedPage B ad K 24 L r σ := xr_goto dX7_endedPage_20 (by decide)
theorem eX7_endedPage_23 : wX7_endedPage B ad K 23 L r σ ↔ wX7_endedPage B ad K 24 L (.null :: r) σ := xr_null dX7_endedPage_23
theorem eX7_endedPage_24 {v : Value} : wX7_endedPage B ad K 24 L [v] σ ↔ (x_rfv v ∧ K (some v) σ) := xr_areturn dX7_endedPage_24
end
abbrev wX7_putBackFromBreak (B : Nat) (ad : Nat → Nat) (K : xK) : Nat → List Value → List Value → xW → Prop := x_WP B none (cxX7_putBackFromBreak B ad) cX7_putBackFromBreak K
section
variable {B : Nat} {ad : Nat → Nat} {K : xK} {L r : List Value} {σ : xW}
theorem eX7_putBackFromBreak_0 : wX7_putBackFromBreak B ad K 0 L r σ ↔ ∃ v, L[0]? = some v ∧ x_rfv v ∧ wX7_putBackFromBreak B ad K 1 L (v :: r) σ := xr_aload_n dX7_putBackFromBreak_0
theorem eX7_putBackFromBreak_1 {a : Nat} : wX7_putBackFromBreak B ad K 1 L (.ref a :: r) σ ↔ ∃ fs v, σ.1 a = some (7, fs) ∧ fs[7]? = some v ∧ wX7_putBackFromBreak B ad K 4 L (v :: r) σ := xr_getfield (t := 7) (j := 7) dX7_putBackFromBreak_1 rfl
theorem eX7_putBackFromBreak_4 {a : Nat} : wX7_putBackFromBreak B ad K 4 L (.ref a :: r) σ ↔ ∃ fs v, σ.1 a = some (1, fs) ∧ fs[2]? = some v ∧ wX7_putBackFromBreak B ad K 7 L (v :: r) σ := xr_getfield (t := 1) (j := 2) dX7_putBackFromBreak_4 rfl
theorem eX7_putBackFromBreak_7 : wX7_putBackFromBreak B ad K 7 L r σ ↔ wX7_putBackFromBreak B ad K 8 L (.int 1 :: r) σ := xr_iconst dX7_putBackFromBreak_7 (by decide)
theorem eX7_putBackFromBreak_8 {x y : Int32} : wX7_putBackFromBreak B ad K 8 L (.int y :: .int x :: r) σ ↔ wX7_putBackFromBreak B ad K 9 L (.int (x - y) :: r) σ := xr_isub dX7_putBackFromBreak_8
theorem eX7_putBackFromBreak_9 {v : Int32} : wX7_putBackFromBreak B ad K 9 L (.int v :: r) σ ↔ (1 < L.length ∧ x_nl L 1 ∧ wX7_putBackFromBreak B ad K 10 (L.set 1 (.int v)) r σ) := xr_istore_n dX7_putBackFromBreak_9
theorem eX7_putBackFromBreak_10 : wX7_putBackFromBreak B ad K 10 L r σ ↔ ∃ v, L[1]? = some (.int v) ∧ wX7_putBackFromBreak B ad K 11 L (.int v :: r) σ := xr_iload_n dX7_putBackFromBreak_10
theorem eX7_putBackFromBreak_11 : wX7_putBackFromBreak B ad K 11 L r σ ↔ ∃ v, L[0]? = some v ∧ x_rfv v ∧ wX7_putBackFromBreak B ad K 12 L (v :: r) σ := xr_aload_n dX7_putBackFromBreak_11
theorem eX7_putBackFromBreak_12 {a : Nat} : wX7_putBackFromBreak B ad K 12 L (.ref a :: r) σ ↔ ∃ fs v, σ.1 a = some (7, fs) ∧ fs[7]? = some v ∧ wX7_putBackFromBreak B ad K 15 L (v :: r) σ := xr_getfield (t := 7) (j := 7) dX7_putBackFromBreak_12 rfl
theorem eX7_putBackFromBreak_15 {a : Nat} : wX7_putBackFromBreak B ad K 15 L (.ref a :: r) σ ↔ ∃ fs v, σ.1 a = some (1, fs) ∧ fs[11]? = some v ∧ wX7_putBackFromBreak B ad K 18 L (v :: r) σ := xr_getfield (t := 1) (j := 11) dX7_putBackFromBreak_15 rfl
theorem eX7_putBackFromBreak_18 {x y : Int32} : wX7_putBackFromBreak B ad K 18 L (.int y :: .int x :: r) σ ↔ (if x.toInt < y.toInt then wX7_putBackFromBreak B ad K 43 L r σ else wX7_putBackFromBreak B ad K 21 L r σ) := (xr_icmp_lt dX7_putBackFromBreak_18 (by decide)).trans x_ite
theorem eX7_putBackFromBreak_21 : wX7_putBackFromBreak B ad K 21 L r σ ↔ ∃ v, L[0]? = some v ∧ x_rfv v ∧ wX7_putBackFromBreak B ad K 22 L (v :: r) σ := xr_aload_n dX7_putBackFromBreak_21
theorem eX7_putBackFromBreak_22 {a : Nat} : wX7_putBackFromBreak B ad K 22 L (.ref a :: r) σ ↔ ∃ fs v, σ.1 a = some (7, fs) ∧ fs[6]? = some v ∧ wX7_putBackFromBreak B ad K 25 L (v :: r) σ := xr_getfield (t := 7) (j := 6) dX7_putBackFromBreak_22 rfl
theorem eX7_putBackFromBreak_25 : wX7_putBackFromBreak B ad K 25 L r σ ↔ ∃ v, L[0]? = some v ∧ x_rfv v ∧ wX7_putBackFromBreak B ad K 26 L (v :: r) σ := xr_aload_n dX7_putBackFromBreak_25
theorem eX7_putBackFromBreak_26 {a : Nat} : wX7_putBackFromBreak B ad K 26 L (.ref a :: r) σ ↔ ∃ fs v, σ.1 a = some (7, fs) ∧ fs[7]? = some v ∧ wX7_putBackFromBreak B ad K 29 L (v :: r) σ := xr_getfield (t := 7) (j := 7) dX7_putBackFromBreak_26 rfl
theorem eX7_putBackFromBreak_29 {a : Nat} : wX7_putBackFromBreak B ad K 29 L (.ref a :: r) σ ↔ ∃ fs v, σ.1 a = some (1, fs) ∧ fs[0]? = some v ∧ wX7_putBackFromBreak B ad K 32 L (v :: r) σ := xr_getfield (t := 1) (j := 0) dX7_putBackFromBreak_29 rfl
theorem eX7_putBackFromBreak_32 : wX7_putBackFromBreak B ad K 32 L r σ ↔ ∃ v, L[1]? = some (.int v) ∧ wX7_putBackFromBreak B ad K 33 L (.int v :: r) σ := xr_iload_n dX7_putBackFromBreak_32
theorem eX7_putBackFromBreak_33 {a : Nat} {x : Int32} : wX7_putBackFromBreak B ad K 33 L (.int x :: .ref a :: r) σ ↔ ∃ t V v, σ.1 a = some (t, V) ∧ (t = 103 ∨ t = 104 ∨ t = 105) ∧ x_ix x V = some v ∧ wX7_putBackFromBreak B ad K 34 L (v :: r) σ := xr_aaload dX7_putBackFromBreak_33
theorem eX7_putBackFromBreak_34 {v0 v1 : Value} : wX7_putBackFromBreak B ad K 34 L (v1 :: v0 :: r) σ ↔ ((r.map fun v => v.category).sum ≤ 8 ∧ x_cl (x_v 4 (eX4_addFirst B ad)) [v0, v1] σ (fun v g => wX7_putBackFromBreak B ad K 37 L (v.toList ++ r) g)) := xr_callV [v0, v1] r dX7_putBackFromBreak_34 rfl
theorem eX7_putBackFromBreak_37 : wX7_putBackFromBreak B ad K 37 L r σ ↔ ∃ v, L[1]? = some (.int v) ∧ x_nl L 1 ∧ wX7_putBackFromBreak B ad K 40 (L.set 1 (.int (v + (-1)))) r σ := xr_iinc dX7_putBackFromBreak_37 (by decide)
theorem eX7_putBackFromBreak_40 : wX7_putBackFromBreak B ad K 40 L r σ ↔ wX7_putBackFromBreak B ad K 10 L r σ := xr_goto dX7_putBackFromBreak_40 (by decide)
theorem eX7_putBackFromBreak_43 : wX7_putBackFromBreak B ad K 43 L r σ ↔ ∃ v, L[0]? = some v ∧ x_rfv v ∧ wX7_putBackFromBreak B ad K 44 L (v :: r) σ := xr_aload_n dX7_putBackFromBreak_43
theorem eX7_putBackFromBreak_44 {a : Nat} : wX7_putBackFromBreak B ad K 44 L (.ref a :: r) σ ↔ ∃ fs v, σ.1 a = some (7, fs) ∧ fs[6]? = some v ∧ wX7_putBackFromBreak B ad K 47 L (v :: r) σ := xr_getfield (t := 7) (j := 6) dX7_putBackFromBreak_44 rfl
theorem eX7_putBackFromBreak_47 : wX7_putBackFromBreak B ad K 47 L r σ ↔ wX7_putBackFromBreak B ad K 48 L (.int 0 :: r) σ := xr_iconst dX7_putBackFromBreak_47 (by decide)
theorem eX7_putBackFromBreak_48 {v0 v1 : Value} : wX7_putBackFromBreak B ad K 48 L (v1 :: v0 :: r) σ ↔ ((r.map fun v => v.category).sum ≤ 8 ∧ x_cl (x_v 4 (eX4_look B ad)) [v0, v1] σ (fun v g => wX7_putBackFromBreak B ad K 51 L (v.toList ++ r) g)) := xr_callV [v0, v1] r dX7_putBackFromBreak_48 rfl
theorem eX7_putBackFromBreak_51 {v : Value} : wX7_putBackFromBreak B ad K 51 L (v :: r) σ ↔ (x_rfv v ∧ 1 < L.length ∧ x_nl L 1 ∧ wX7_putBackFromBreak B ad K 52 (L.set 1 v) r σ) := xr_astore_n dX7_putBackFromBreak_51
theorem eX7_putBackFromBreak_52 : wX7_putBackFromBreak B ad K 52 L r σ ↔ ∃ v, L[1]? = some v ∧ x_rfv v ∧ wX7_putBackFromBreak B ad K 53 L (v :: r) σ := xr_aload_n dX7_putBackFromBreak_52
theorem eX7_putBackFromBreak_53 {v : Value} : wX7_putBackFromBreak B ad K 53 L (v :: r) σ ↔ (x_rfv v ∧ (if v = .null then wX7_putBackFromBreak B ad K 70 L r σ else wX7_putBackFromBreak B ad K 56 L r σ)) := (xr_ifnull dX7_putBackFromBreak_53 (by decide)).trans (and_congr_right fun _ => x_ite)
theorem eX7_putBackFromBreak_56 : wX7_putBackFromBreak B ad K 56 L r σ ↔ ∃ v, L[1]? = some v ∧ x_rfv v ∧ wX7_putBackFromBreak B ad K 57 L (v :: r) σ := xr_aload_n dX7_putBackFromBreak_56
theorem eX7_putBackFromBreak_57 {a : Nat} : wX7_putBackFromBreak B ad K 57 L (.ref a :: r) σ ↔ ∃ fs v, σ.1 a = some (3, fs) ∧ fs[1]? = some v ∧ wX7_putBackFromBreak B ad K 60 L (v :: r) σ := xr_getfield (t := 3) (j := 1) dX7_putBackFromBreak_57 rfl
theorem eX7_putBackFromBreak_60 : wX7_putBackFromBreak B ad K 60 L r σ ↔ wX7_putBackFromBreak B ad K 63 L (.ref (ad 3) :: r) σ := xr_gets dX7_putBackFromBreak_60 rfl
theorem eX7_putBackFromBreak_63 {v u : Value} : wX7_putBackFromBreak B ad K 63 L (u :: v :: r) σ ↔ (x_rfv v ∧ x_rfv u ∧ (if v = u then wX7_putBackFromBreak B ad K 66 L r σ else wX7_putBackFromBreak B ad K 70 L r σ)) := (xr_acmp_ne dX7_putBackFromBreak_63 (by decide)).trans (and_congr_right fun _ => and_congr_right fun _ => x_ite)
theorem eX7_putBackFromBreak_66 : wX7_putBackFromBreak B ad K 66 L r σ ↔ ∃ v, L[0]? = some v ∧ x_rfv v ∧ wX7_putBackFromBreak B ad K 67 L (v :: r) σ := xr_aload_n dX7_putBackFromBreak_66
theorem eX7_putBackFromBreak_67 {v0 : Value} : wX7_putBackFromBreak B ad K 67 L (v0 :: r) σ ↔ ((r.map fun v => v.category).sum ≤ 8 ∧ x_cl (x_v 7 (eX7_dropFirst B ad)) [v0] σ (fun v g => wX7_putBackFromBreak B ad K 70 L (v.toList ++ r) g)) := xr_callV [v0] r dX7_putBackFromBreak_67 rfl
theorem eX7_putBackFromBreak_70 : wX7_putBackFromBreak B ad K 70 L [] σ ↔ K none σ := xr_return dX7_putBackFromBreak_70
end
abbrev wX7_putBackInserts (B : Nat) (ad : Nat → Nat) (K : xK) : Nat → List Value → List Value → xW → Prop := x_WP B none (cxX7_putBackInserts B ad) cX7_putBackInserts K
section
variable {B : Nat} {ad : Nat → Nat} {K : xK} {L r : List Value} {σ : xW}
theorem eX7_putBackInserts_0 : wX7_putBackInserts B ad K 0 L r σ ↔ ∃ v, L[0]? = some v ∧ x_rfv v ∧ wX7_putBackInserts B ad K 1 L (v :: r) σ := xr_aload_n dX7_putBackInserts_0
theorem eX7_putBackInserts_1 {a : Nat} : wX7_putBackInserts B ad K 1 L (.ref a :: r) σ ↔ ∃ fs v, σ.1 a = some (7, fs) ∧ fs[7]? = some v ∧ wX7_putBackInserts B ad K 4 L (v :: r) σ := xr_getfield (t := 7) (j := 7) dX7_putBackInserts_1 rfl
theorem eX7_putBackInserts_4 {a : Nat} : wX7_putBackInserts B ad K 4 L (.ref a :: r) σ ↔ ∃ fs v, σ.1 a = some (1, fs) ∧ fs[11]? = some v ∧ wX7_putBackInserts B ad K 7 L (v :: r) σ := xr_getfield (t := 1) (j := 11) dX7_putBackInserts_4 rfl
theorem eX7_putBackInserts_7 : wX7_putBackInserts B ad K 7 L r σ ↔ wX7_putBackInserts B ad K 8 L (.int 1 :: r) σ := xr_iconst dX7_putBackInserts_7 (by decide)
theorem eX7_putBackInserts_8 {x y : Int32} : wX7_putBackInserts B ad K 8 L (.int y :: .int x :: r) σ ↔ wX7_putBackInserts B ad K 9 L (.int (x - y) :: r) σ := xr_isub dX7_putBackInserts_8
theorem eX7_putBackInserts_9 {v : Int32} : wX7_putBackInserts B ad K 9 L (.int v :: r) σ ↔ (1 < L.length ∧ x_nl L 1 ∧ wX7_putBackInserts B ad K 10 (L.set 1 (.int v)) r σ) := xr_istore_n dX7_putBackInserts_9
theorem eX7_putBackInserts_10 : wX7_putBackInserts B ad K 10 L r σ ↔ ∃ v, L[1]? = some (.int v) ∧ wX7_putBackInserts B ad K 11 L (.int v :: r) σ := xr_iload_n dX7_putBackInserts_10
theorem eX7_putBackInserts_11 {x : Int32} : wX7_putBackInserts B ad K 11 L (.int x :: r) σ ↔ (if x.toInt < 0 then wX7_putBackInserts B ad K 63 L r σ else wX7_putBackInserts B ad K 14 L r σ) := (xr_if_lt dX7_putBackInserts_11 (by decide)).trans x_ite
theorem eX7_putBackInserts_14 : wX7_putBackInserts B ad K 14 L r σ ↔ ∃ v, L[0]? = some v ∧ x_rfv v ∧ wX7_putBackInserts B ad K 15 L (v :: r) σ := xr_aload_n dX7_putBackInserts_14
theorem eX7_putBackInserts_15 {a : Nat} : wX7_putBackInserts B ad K 15 L (.ref a :: r) σ ↔ ∃ fs v, σ.1 a = some (7, fs) ∧ fs[7]? = some v ∧ wX7_putBackInserts B ad K 18 L (v :: r) σ := xr_getfield (t := 7) (j := 7) dX7_putBackInserts_15 rfl
theorem eX7_putBackInserts_18 {a : Nat} : wX7_putBackInserts B ad K 18 L (.ref a :: r) σ ↔ ∃ fs v, σ.1 a = some (1, fs) ∧ fs[0]? = some v ∧ wX7_putBackInserts B ad K 21 L (v :: r) σ := xr_getfield (t := 1) (j := 0) dX7_putBackInserts_18 rfl
theorem eX7_putBackInserts_21 : wX7_putBackInserts B ad K 21 L r σ ↔ ∃ v, L[1]? = some (.int v) ∧ wX7_putBackInserts B ad K 22 L (.int v :: r) σ := xr_iload_n dX7_putBackInserts_21
theorem eX7_putBackInserts_22 {a : Nat} {x : Int32} : wX7_putBackInserts B ad K 22 L (.int x :: .ref a :: r) σ ↔ ∃ t V v, σ.1 a = some (t, V) ∧ (t = 103 ∨ t = 104 ∨ t = 105) ∧ x_ix x V = some v ∧ wX7_putBackInserts B ad K 23 L (v :: r) σ := xr_aaload dX7_putBackInserts_22
theorem eX7_putBackInserts_23 {v : Value} : wX7_putBackInserts B ad K 23 L (v :: r) σ ↔ (x_rfv v ∧ 2 < L.length ∧ x_nl L 2 ∧ wX7_putBackInserts B ad K 24 (L.set 2 v) r σ) := xr_astore_n dX7_putBackInserts_23
theorem eX7_putBackInserts_24 : wX7_putBackInserts B ad K 24 L r σ ↔ ∃ v, L[2]? = some v ∧ x_rfv v ∧ wX7_putBackInserts B ad K 25 L (v :: r) σ := xr_aload_n dX7_putBackInserts_24
theorem eX7_putBackInserts_25 {v : Value} : wX7_putBackInserts B ad K 25 L (v :: r) σ ↔ (v.category = 1 ∧ wX7_putBackInserts B ad K 26 L (v :: v :: r) σ) := xr_dup dX7_putBackInserts_25
theorem eX7_putBackInserts_26 {a : Nat} : wX7_putBackInserts B ad K 26 L (.ref a :: r) σ ↔ ∃ fs v, σ.1 a = some (3, fs) ∧ fs[9]? = some v ∧ wX7_putBackInserts B ad K 29 L (v :: r) σ := xr_getfield (t := 3) (j := 9) dX7_putBackInserts_26 rfl
theorem eX7_putBackInserts_29 : wX7_putBackInserts B ad K 29 L r σ ↔ ∃ v, L[0]? = some v ∧ x_rfv v ∧ wX7_putBackInserts B ad K 30 L (v :: r) σ := xr_aload_n dX7_putBackInserts_29
theorem eX7_putBackInserts_30 {a : Nat} : wX7_putBackInserts B ad K 30 L (.ref a :: r) σ ↔ ∃ fs v, σ.1 a = some (7, fs) ∧ fs[7]? = some v ∧ wX7_putBackInserts B ad K 33 L (v :: r) σ := xr_getfield (t := 7) (j := 7) dX7_putBackInserts_30 rfl
theorem eX7_putBackInserts_33 {a : Nat} : wX7_putBackInserts B ad K 33 L (.ref a :: r) σ ↔ ∃ fs v, σ.1 a = some (1, fs) ∧ fs[1]? = some v ∧ wX7_putBackInserts B ad K 36 L (v :: r) σ := xr_getfield (t := 1) (j := 1) dX7_putBackInserts_33 rfl
theorem eX7_putBackInserts_36 : wX7_putBackInserts B ad K 36 L r σ ↔ ∃ v, L[1]? = some (.int v) ∧ wX7_putBackInserts B ad K 37 L (.int v :: r) σ := xr_iload_n dX7_putBackInserts_36
theorem eX7_putBackInserts_37 {a : Nat} {x : Int32} : wX7_putBackInserts B ad K 37 L (.int x :: .ref a :: r) σ ↔ ∃ t V v, σ.1 a = some (t, V) ∧ (t = 100 ∨ t = 106) ∧ x_ix x V = some v ∧ wX7_putBackInserts B ad K 38 L (v :: r) σ := xr_iaload dX7_putBackInserts_37
theorem eX7_putBackInserts_38 {x y : Int32} : wX7_putBackInserts B ad K 38 L (.int y :: .int x :: r) σ ↔ wX7_putBackInserts B ad K 39 L (.int (x - y) :: r) σ := xr_isub dX7_putBackInserts_38
theorem eX7_putBackInserts_39 {x : Int32} {a : Nat} : wX7_putBackInserts B ad K 39 L (.int x :: .ref a :: r) σ ↔ ∃ fs, σ.1 a = some (3, fs) ∧ 9 < fs.length ∧ B ≤ a ∧ wX7_putBackInserts B ad K 42 L r (x_up σ.1 a (3, fs.set 9 (.int x)), σ.2) := xr_put_i (t := 3) (j := 9) dX7_putBackInserts_39 rfl (by decide)
theorem eX7_putBackInserts_42 : wX7_putBackInserts B ad K 42 L r σ ↔ ∃ v, L[2]? = some v ∧ x_rfv v ∧ wX7_putBackInserts B ad K 43 L (v :: r) σ := xr_aload_n dX7_putBackInserts_42
theorem eX7_putBackInserts_43 {a : Nat} : wX7_putBackInserts B ad K 43 L (.ref a :: r) σ ↔ ∃ fs v, σ.1 a = some (3, fs) ∧ fs[9]? = some v ∧ wX7_putBackInserts B ad K 46 L (v :: r) σ := xr_getfield (t := 3) (j := 9) dX7_putBackInserts_43 rfl
theorem eX7_putBackInserts_46 {x : Int32} : wX7_putBackInserts B ad K 46 L (.int x :: r) σ ↔ (if 0 < x.toInt then wX7_putBackInserts B ad K 49 L r σ else wX7_putBackInserts B ad K 57 L r σ) := (xr_if_le dX7_putBackInserts_46 (by decide)).trans x_ite
theorem eX7_putBackInserts_49 : wX7_putBackInserts B ad K 49 L r σ ↔ ∃ v, L[0]? = some v ∧ x_rfv v ∧ wX7_putBackInserts B ad K 50 L (v :: r) σ := xr_aload_n dX7_putBackInserts_49
theorem eX7_putBackInserts_50 {a : Nat} : wX7_putBackInserts B ad K 50 L (.ref a :: r) σ ↔ ∃ fs v, σ.1 a = some (7, fs) ∧ fs[6]? = some v ∧ wX7_putBackInserts B ad K 53 L (v :: r) σ := xr_getfield (t := 7) (j := 6) dX7_putBackInserts_50 rfl
theorem eX7_putBackInserts_53 : wX7_putBackInserts B ad K 53 L r σ ↔ ∃ v, L[2]? = some v ∧ x_rfv v ∧ wX7_putBackInserts B ad K 54 L (v :: r) σ := xr_aload_n dX7_putBackInserts_53
theorem eX7_putBackInserts_54 {v0 v1 : Value} : wX7_putBackInserts B ad K 54 L (v1 :: v0 :: r) σ ↔ ((r.map fun v => v.category).sum ≤ 8 ∧ x_cl (x_v 4 (eX4_addFirst B ad)) [v0, v1] σ (fun v g => wX7_putBackInserts B ad K 57 L (v.toList ++ r) g)) := xr_callV [v0, v1] r dX7_putBackInserts_54 rfl
theorem eX7_putBackInserts_57 : wX7_putBackInserts B ad K 57 L r σ ↔ ∃ v, L[1]? = some (.int v) ∧ x_nl L 1 ∧ wX7_putBackInserts B ad K 60 (L.set 1 (.int (v + (-1)))) r σ := xr_iinc dX7_putBackInserts_57 (by decide)
theorem eX7_putBackInserts_60 : wX7_putBackInserts B ad K 60 L r σ ↔ wX7_putBackInserts B ad K 10 L r σ := xr_goto dX7_putBackInserts_60 (by decide)
theorem eX7_putBackInserts_63 : wX7_putBackInserts B ad K 63 L [] σ ↔ K none σ := xr_return dX7_putBackInserts_63
end
abbrev wX7_endPage (B : Nat) (ad : Nat → Nat) (K : xK) : Nat → List Value → List Value → xW → Prop := x_WP B none (cxX7_endPage B ad) cX7_endPage K
section
variable {B : Nat} {ad : Nat → Nat} {K : xK} {L r : List Value} {σ : xW}
theorem eX7_endPage_0 : wX7_endPage B ad K 0 L r σ ↔ ∃ v, L[0]? = some v ∧ x_rfv v ∧ wX7_endPage B ad K 1 L (v :: r) σ := xr_aload_n dX7_endPage_0
theorem eX7_endPage_1 : wX7_endPage B ad K 1 L r σ ↔ ∃ v, L[0]? = some v ∧ x_rfv v ∧ wX7_endPage B ad K 2 L (v :: r) σ := xr_aload_n dX7_endPage_1
theorem eX7_endPage_2 {a : Nat} : wX7_endPage B ad K 2 L (.ref a :: r) σ ↔ ∃ fs v, σ.1 a = some (7, fs) ∧ fs[5]? = some v ∧ wX7_endPage B ad K 5 L (v :: r) σ := xr_getfield (t := 7) (j := 5) dX7_endPage_2 rfl
theorem eX7_endPage_5 : wX7_endPage B ad K 5 L r σ ↔ wX7_endPage B ad K 6 L (.int 1 :: r) σ := xr_iconst dX7_endPage_5 (by decide)
theorem eX7_endPage_6 {x y : Int32} : wX7_endPage B ad K 6 L (.int y :: .int x :: r) σ ↔ wX7_endPage B ad K 7 L (.int (x - y) :: r) σ := xr_isub dX7_endPage_6
theorem eX7_endPage_7 {v0 v1 : Value} : wX7_endPage B ad K 7 L (v1 :: v0 :: r) σ ↔ ((r.map fun v => v.category).sum ≤ 8 ∧ x_cl (x_v 7 (eX7_endedPage B ad)) [v0, v1] σ (fun v g => wX7_endPage B ad K 10 L (v.toList ++ r) g)) := xr_callV [v0, v1] r dX7_endPage_7 rfl
theorem eX7_endPage_10 {v : Value} : wX7_endPage B ad K 10 L (v :: r) σ ↔ (x_rfv v ∧ 1 < L.length ∧ x_nl L 1 ∧ wX7_endPage B ad K 11 (L.set 1 v) r σ) := xr_astore_n dX7_endPage_10
theorem eX7_endPage_11 : wX7_endPage B ad K 11 L r σ ↔ ∃ v, L[0]? = some v ∧ x_rfv v ∧ wX7_endPage B ad K 12 L (v :: r) σ := xr_aload_n dX7_endPage_11
theorem eX7_endPage_12 {a : Nat} : wX7_endPage B ad K 12 L (.ref a :: r) σ ↔ ∃ fs v, σ.1 a = some (7, fs) ∧ fs[4]? = some v ∧ wX7_endPage B ad K 15 L (v :: r) σ := xr_getfield (t := 7) (j := 4) dX7_endPage_12 rfl
theorem eX7_endPage_15 : wX7_endPage B ad K 15 L r σ ↔ ∃ v, L[0]? = some v ∧ x_rfv v ∧ wX7_endPage B ad K 16 L (v :: r) σ := xr_aload_n dX7_endPage_15
theorem eX7_endPage_16 {a : Nat} : wX7_endPage B ad K 16 L (.ref a :: r) σ ↔ ∃ fs v, σ.1 a = some (7, fs) ∧ fs[5]? = some v ∧ wX7_endPage B ad K 19 L (v :: r) σ := xr_getfield (t := 7) (j := 5) dX7_endPage_16 rfl
theorem eX7_endPage_19 : wX7_endPage B ad K 19 L r σ ↔ wX7_endPage B ad K 22 L (.ref σ.2.1 :: r) (x_up σ.1 σ.2.1 (6, [.null, .null, .null, .long 0, .int 0, .int 0, .int 0, .int 0]), σ.2.1 + 1, σ.2.2 + 8) := xr_new (t := 6) dX7_endPage_19 rfl
theorem eX7_endPage_22 {v : Value} : wX7_endPage B ad K 22 L (v :: r) σ ↔ (v.category = 1 ∧ wX7_endPage B ad K 23 L (v :: v :: r) σ) := xr_dup dX7_endPage_22
theorem eX7_endPage_23 : wX7_endPage B ad K 23 L r σ ↔ ∃ v, L[0]? = some v ∧ x_rfv v ∧ wX7_endPage B ad K 24 L (v :: r) σ := xr_aload_n dX7_endPage_23
theorem eX7_endPage_24 {a : Nat} : wX7_endPage B ad K 24 L (.ref a :: r) σ ↔ ∃ fs v, σ.1 a = some (7, fs) ∧ fs[7]? = some v ∧ wX7_endPage B ad K 27 L (v :: r) σ := xr_getfield (t := 7) (j := 7) dX7_endPage_24 rfl
theorem eX7_endPage_27 : wX7_endPage B ad K 27 L r σ ↔ ∃ v, L[1]? = some v ∧ x_rfv v ∧ wX7_endPage B ad K 28 L (v :: r) σ := xr_aload_n dX7_endPage_27
theorem eX7_endPage_28 {v : Value} : wX7_endPage B ad K 28 L (v :: r) σ ↔ (x_rfv v ∧ (if v = .null then wX7_endPage B ad K 31 L r σ else wX7_endPage B ad K 35 L r σ)) := (xr_ifnonnull dX7_endPage_28 (by decide)).trans (and_congr_right fun _ => x_ite)
theorem eX7_endPage_31 : wX7_endPage B ad K 31 L r σ ↔ wX7_endPage B ad K 32 L (.int 0 :: r) σ := xr_iconst dX7_endPage_31 (by decide)
theorem eX7_endPage_32 : wX7_endPage B ad K 32 L r σ ↔ wX7_endPage B ad K 39 L r σ := xr_goto dX7_endPage_32 (by decide)
theorem eX7_endPage_35 : wX7_endPage B ad K 35 L r σ ↔ ∃ v, L[1]? = some v ∧ x_rfv v ∧ wX7_endPage B ad K 36 L (v :: r) σ := xr_aload_n dX7_endPage_35
theorem eX7_endPage_36 {a : Nat} : wX7_endPage B ad K 36 L (.ref a :: r) σ ↔ ∃ fs v, σ.1 a = some (6, fs) ∧ fs[7]? = some v ∧ wX7_endPage B ad K 39 L (v :: r) σ := xr_getfield (t := 6) (j := 7) dX7_endPage_36 rfl
theorem eX7_endPage_39 {v0 v1 v2 : Value} : wX7_endPage B ad K 39 L (v2 :: v1 :: v0 :: r) σ ↔ ((r.map fun v => v.category).sum ≤ 8 ∧ x_cl (x_n1 (eX6_init B ad)) [v0, v1, v2] σ (fun v g => wX7_endPage B ad K 42 L (v.toList ++ r) g)) := xr_callI [v0, v1, v2] r dX7_endPage_39 rfl
theorem eX7_endPage_42 {a x : Nat} {j : Int32} : wX7_endPage B ad K 42 L (.ref x :: .int j :: .ref a :: r) σ ↔ ∃ t V t2 fs, σ.1 a = some (t, V) ∧ σ.1 x = some (t2, fs) ∧ ((t = 103 ∧ t2 = 3) ∨ (t = 104 ∧ t2 = 2) ∨ (t = 105 ∧ t2 = 6)) ∧ (x_ix j V).isSome ∧ B ≤ a ∧ wX7_endPage B ad K 43 L r (x_up σ.1 a (t, V.set j.toInt.toNat (.ref x)), σ.2) := xr_aastore dX7_endPage_42
theorem eX7_endPage_43 : wX7_endPage B ad K 43 L r σ ↔ ∃ v, L[0]? = some v ∧ x_rfv v ∧ wX7_endPage B ad K 44 L (v :: r) σ := xr_aload_n dX7_endPage_43
theorem eX7_endPage_44 {v : Value} : wX7_endPage B ad K 44 L (v :: r) σ ↔ (v.category = 1 ∧ wX7_endPage B ad K 45 L (v :: v :: r) σ) := xr_dup dX7_endPage_44
theorem eX7_endPage_45 {a : Nat} : wX7_endPage B ad K 45 L (.ref a :: r) σ ↔ ∃ fs v, σ.1 a = some (7, fs) ∧ fs[5]? = some v ∧ wX7_endPage B ad K 48 L (v :: r) σ := xr_getfield (t := 7) (j := 5) dX7_endPage_45 rfl
theorem eX7_endPage_48 : wX7_endPage B ad K 48 L r σ ↔ wX7_endPage B ad K 49 L (.int 1 :: r) σ := xr_iconst dX7_endPage_48 (by decide)
theorem eX7_endPage_49 {x y : Int32} : wX7_endPage B ad K 49 L (.int y :: .int x :: r) σ ↔ wX7_endPage B ad K 50 L (.int (x + y) :: r) σ := xr_iadd dX7_endPage_49
theorem eX7_endPage_50 {x : Int32} {a : Nat} : wX7_endPage B ad K 50 L (.int x :: .ref a :: r) σ ↔ ∃ fs, σ.1 a = some (7, fs) ∧ 5 < fs.length ∧ B ≤ a ∧ wX7_endPage B ad K 53 L r (x_up σ.1 a (7, fs.set 5 (.int x)), σ.2) := xr_put_i (t := 7) (j := 5) dX7_endPage_50 rfl (by decide)
theorem eX7_endPage_53 : wX7_endPage B ad K 53 L r σ ↔ ∃ v, L[0]? = some v ∧ x_rfv v ∧ wX7_endPage B ad K 54 L (v :: r) σ := xr_aload_n dX7_endPage_53
theorem eX7_endPage_54 {v0 : Value} : wX7_endPage B ad K 54 L (v0 :: r) σ ↔ ((r.map fun v => v.category).sum ≤ 8 ∧ x_cl (x_v 7 (eX7_putBackFromBreak B ad)) [v0] σ (fun v g => wX7_endPage B ad K 57 L (v.toList ++ r) g)) := xr_callV [v0] r dX7_endPage_54 rfl
theorem eX7_endPage_57 : wX7_endPage B ad K 57 L r σ ↔ ∃ v, L[0]? = some v ∧ x_rfv v ∧ wX7_endPage B ad K 58 L (v :: r) σ := xr_aload_n dX7_endPage_57
theorem eX7_endPage_58 {v0 : Value} : wX7_endPage B ad K 58 L (v0 :: r) σ ↔ ((r.map fun v => v.category).sum ≤ 8 ∧ x_cl (x_v 7 (eX7_putBackInserts B ad)) [v0] σ (fun v g => wX7_endPage B ad K 61 L (v.toList ++ r) g)) := xr_callV [v0] r dX7_endPage_58 rfl
theorem eX7_endPage_61 : wX7_endPage B ad K 61 L r σ ↔ ∃ v, L[0]? = some v ∧ x_rfv v ∧ wX7_endPage B ad K 62 L (v :: r) σ := xr_aload_n dX7_endPage_61
theorem eX7_endPage_62 {a : Nat} : wX7_endPage B ad K 62 L (.ref a :: r) σ ↔ ∃ fs v, σ.1 a = some (7, fs) ∧ fs[7]? = some v ∧ wX7_endPage B ad K 65 L (v :: r) σ := xr_getfield (t := 7) (j := 7) dX7_endPage_62 rfl
theorem eX7_endPage_65 : wX7_endPage B ad K 65 L r σ ↔ ∃ v, L[0]? = some v ∧ x_rfv v ∧ wX7_endPage B ad K 66 L (v :: r) σ := xr_aload_n dX7_endPage_65
theorem eX7_endPage_66 {a : Nat} : wX7_endPage B ad K 66 L (.ref a :: r) σ ↔ ∃ fs v, σ.1 a = some (7, fs) ∧ fs[8]? = some v ∧ wX7_endPage B ad K 69 L (v :: r) σ := xr_getfield (t := 7) (j := 8) dX7_endPage_66 rfl
theorem eX7_endPage_69 : wX7_endPage B ad K 69 L r σ ↔ ∃ v, L[0]? = some v ∧ x_rfv v ∧ wX7_endPage B ad K 70 L (v :: r) σ := xr_aload_n dX7_endPage_69
theorem eX7_endPage_70 {a : Nat} : wX7_endPage B ad K 70 L (.ref a :: r) σ ↔ ∃ fs v, σ.1 a = some (7, fs) ∧ fs[9]? = some v ∧ wX7_endPage B ad K 73 L (v :: r) σ := xr_getfield (t := 7) (j := 9) dX7_endPage_70 rfl
theorem eX7_endPage_73 : wX7_endPage B ad K 73 L r σ ↔ ∃ v, L[0]? = some v ∧ x_rfv v ∧ wX7_endPage B ad K 74 L (v :: r) σ := xr_aload_n dX7_endPage_73
theorem eX7_endPage_74 {a : Nat} : wX7_endPage B ad K 74 L (.ref a :: r) σ ↔ ∃ fs v, σ.1 a = some (7, fs) ∧ fs[10]? = some v ∧ wX7_endPage B ad K 77 L (v :: r) σ := xr_getfield (t := 7) (j := 10) dX7_endPage_74 rfl
theorem eX7_endPage_77 {v0 v1 v2 v3 : Value} : wX7_endPage B ad K 77 L (v3 :: v2 :: v1 :: v0 :: r) σ ↔ ((r.map fun v => v.category).sum ≤ 8 ∧ x_cl (x_v 1 (eX0_begin B ad)) [v0, v1, v2, v3] σ (fun v g => wX7_endPage B ad K 80 L (v.toList ++ r) g)) := xr_callV [v0, v1, v2, v3] r dX7_endPage_77 rfl
theorem eX7_endPage_80 : wX7_endPage B ad K 80 L [] σ ↔ K none σ := xr_return dX7_endPage_80
end
abbrev wX7_takeStep (B : Nat) (ad : Nat → Nat) (K : xK) : Nat → List Value → List Value → xW → Prop := x_WP B (some .boolean) (cxX7_takeStep B ad) cX7_takeStep K
section
variable {B : Nat} {ad : Nat → Nat} {K : xK} {L r : List Value} {σ : xW}
theorem eX7_takeStep_0 : wX7_takeStep B ad K 0 L r σ ↔ ∃ v, L[0]? = some v ∧ x_rfv v ∧ wX7_takeStep B ad K 1 L (v :: r) σ := xr_aload_n dX7_takeStep_0
theorem eX7_takeStep_1 {a : Nat} : wX7_takeStep B ad K 1 L (.ref a :: r) σ ↔ ∃ fs v, σ.1 a = some (7, fs) ∧ fs[6]? = some v ∧ wX7_takeStep B ad K 4 L (v :: r) σ := xr_getfield (t := 7) (j := 6) dX7_takeStep_1 rfl
theorem eX7_takeStep_4 : wX7_takeStep B ad K 4 L r σ ↔ wX7_takeStep B ad K 5 L (.int 0 :: r) σ := xr_iconst dX7_takeStep_4 (by decide)
theorem eX7_takeStep_5 {v0 v1 : Value} : wX7_takeStep B ad K 5 L (v1 :: v0 :: r) σ ↔ ((r.map fun v => v.category).sum ≤ 8 ∧ x_cl (x_v 4 (eX4_look B ad)) [v0, v1] σ (fun v g => wX7_takeStep B ad K 8 L (v.toList ++ r) g)) := xr_callV [v0, v1] r dX7_takeStep_5 rfl
theorem eX7_takeStep_8 {v : Value} : wX7_takeStep B ad K 8 L (v :: r) σ ↔ (x_rfv v ∧ 1 < L.length ∧ x_nl L 1 ∧ wX7_takeStep B ad K 9 (L.set 1 v) r σ) := xr_astore_n dX7_takeStep_8
theorem eX7_takeStep_9 : wX7_takeStep B ad K 9 L r σ ↔ ∃ v, L[1]? = some v ∧ x_rfv v ∧ wX7_takeStep B ad K 10 L (v :: r) σ := xr_aload_n dX7_takeStep_9
theorem eX7_takeStep_10 {v : Value} : wX7_takeStep B ad K 10 L (v :: r) σ ↔ (x_rfv v ∧ (if v = .null then wX7_takeStep B ad K 22 L r σ else wX7_takeStep B ad K 13 L r σ)) := (xr_ifnull dX7_takeStep_10 (by decide)).trans (and_congr_right fun _ => x_ite)
theorem eX7_takeStep_13 : wX7_takeStep B ad K 13 L r σ ↔ ∃ v, L[0]? = some v ∧ x_rfv v ∧ wX7_takeStep B ad K 14 L (v :: r) σ := xr_aload_n dX7_takeStep_13
theorem eX7_takeStep_14 {a : Nat} : wX7_takeStep B ad K 14 L (.ref a :: r) σ ↔ ∃ fs v, σ.1 a = some (7, fs) ∧ fs[5]? = some v ∧ wX7_takeStep B ad K 17 L (v :: r) σ := xr_getfield (t := 7) (j := 5) dX7_takeStep_14 rfl
theorem eX7_takeStep_17 : wX7_takeStep B ad K 17 L r σ ↔ wX7_takeStep B ad K 19 L (.int 60 :: r) σ := xr_bipush dX7_takeStep_17 (by decide)
theorem eX7_takeStep_19 {x y : Int32} : wX7_takeStep B ad K 19 L (.int y :: .int x :: r) σ ↔ (if x.toInt < y.toInt then wX7_takeStep B ad K 24 L r σ else wX7_takeStep B ad K 22 L r σ) := (xr_icmp_lt dX7_takeStep_19 (by decide)).trans x_ite
theorem eX7_takeStep_22 : wX7_takeStep B ad K 22 L r σ ↔ wX7_takeStep B ad K 23 L (.int 0 :: r) σ := xr_iconst dX7_takeStep_22 (by decide)
theorem eX7_takeStep_23 {x : Int32} : wX7_takeStep B ad K 23 L [.int x] σ ↔ ((x = 0 ∨ x = 1) ∧ K (some (.int x)) σ) := xr_zreturn dX7_takeStep_23
theorem eX7_takeStep_24 : wX7_takeStep B ad K 24 L r σ ↔ ∃ v, L[0]? = some v ∧ x_rfv v ∧ wX7_takeStep B ad K 25 L (v :: r) σ := xr_aload_n dX7_takeStep_24
theorem eX7_takeStep_25 {a : Nat} : wX7_takeStep B ad K 25 L (.ref a :: r) σ ↔ ∃ fs v, σ.1 a = some (7, fs) ∧ fs[7]? = some v ∧ wX7_takeStep B ad K 28 L (v :: r) σ := xr_getfield (t := 7) (j := 7) dX7_takeStep_25 rfl
theorem eX7_takeStep_28 {a : Nat} : wX7_takeStep B ad K 28 L (.ref a :: r) σ ↔ ∃ fs v, σ.1 a = some (1, fs) ∧ fs[3]? = some v ∧ wX7_takeStep B ad K 31 L (v :: r) σ := xr_getfield (t := 1) (j := 3) dX7_takeStep_28 rfl
theorem eX7_takeStep_31 {x : Int32} : wX7_takeStep B ad K 31 L (.int x :: r) σ ↔ (if x = 0 then wX7_takeStep B ad K 34 L r σ else wX7_takeStep B ad K 50 L r σ) := (xr_if_ne dX7_takeStep_31 (by decide)).trans x_ite
theorem eX7_takeStep_34 : wX7_takeStep B ad K 34 L r σ ↔ ∃ v, L[1]? = some v ∧ x_rfv v ∧ wX7_takeStep B ad K 35 L (v :: r) σ := xr_aload_n dX7_takeStep_34
theorem eX7_takeStep_35 {a : Nat} : wX7_takeStep B ad K 35 L (.ref a :: r) σ ↔ ∃ fs v, σ.1 a = some (3, fs) ∧ fs[1]? = some v ∧ wX7_takeStep B ad K 38 L (v :: r) σ := xr_getfield (t := 3) (j := 1) dX7_takeStep_35 rfl
theorem eX7_takeStep_38 {a : Nat} : wX7_takeStep B ad K 38 L (.ref a :: r) σ ↔ ∃ i : Nat, i < 6 ∧ ad i = a ∧ wX7_takeStep B ad K 41 L (.int (if 1 ≤ i ∧ i ≤ 3 then 1 else 0) :: r) σ := xr_getkind dX7_takeStep_38 rfl (x_ksa (by decide))
theorem eX7_takeStep_41 {x : Int32} : wX7_takeStep B ad K 41 L (.int x :: r) σ ↔ (if x = 0 then wX7_takeStep B ad K 50 L r σ else wX7_takeStep B ad K 44 L r σ) := (xr_if_eq dX7_takeStep_41 (by decide)).trans x_ite
theorem eX7_takeStep_44 : wX7_takeStep B ad K 44 L r σ ↔ ∃ v, L[0]? = some v ∧ x_rfv v ∧ wX7_takeStep B ad K 45 L (v :: r) σ := xr_aload_n dX7_takeStep_44
theorem eX7_takeStep_45 {v0 : Value} : wX7_takeStep B ad K 45 L (v0 :: r) σ ↔ ((r.map fun v => v.category).sum ≤ 8 ∧ x_cl (x_v 7 (eX7_dropFirst B ad)) [v0] σ (fun v g => wX7_takeStep B ad K 48 L (v.toList ++ r) g)) := xr_callV [v0] r dX7_takeStep_45 rfl
theorem eX7_takeStep_48 : wX7_takeStep B ad K 48 L r σ ↔ wX7_takeStep B ad K 49 L (.int 1 :: r) σ := xr_iconst dX7_takeStep_48 (by decide)
theorem eX7_takeStep_49 {x : Int32} : wX7_takeStep B ad K 49 L [.int x] σ ↔ ((x = 0 ∨ x = 1) ∧ K (some (.int x)) σ) := xr_zreturn dX7_takeStep_49
theorem eX7_takeStep_50 : wX7_takeStep B ad K 50 L r σ ↔ ∃ v, L[0]? = some v ∧ x_rfv v ∧ wX7_takeStep B ad K 51 L (v :: r) σ := xr_aload_n dX7_takeStep_50
theorem eX7_takeStep_51 {a : Nat} : wX7_takeStep B ad K 51 L (.ref a :: r) σ ↔ ∃ fs v, σ.1 a = some (7, fs) ∧ fs[6]? = some v ∧ wX7_takeStep B ad K 54 L (v :: r) σ := xr_getfield (t := 7) (j := 6) dX7_takeStep_51 rfl
theorem eX7_takeStep_54 : wX7_takeStep B ad K 54 L r σ ↔ wX7_takeStep B ad K 55 L (.int 1 :: r) σ := xr_iconst dX7_takeStep_54 (by decide)
theorem eX7_takeStep_55 {v0 v1 : Value} : wX7_takeStep B ad K 55 L (v1 :: v0 :: r) σ ↔ ((r.map fun v => v.category).sum ≤ 8 ∧ x_cl (x_v 4 (eX4_look B ad)) [v0, v1] σ (fun v g => wX7_takeStep B ad K 58 L (v.toList ++ r) g)) := xr_callV [v0, v1] r dX7_takeStep_55 rfl
theorem eX7_takeStep_58 {v : Value} : wX7_takeStep B ad K 58 L (v :: r) σ ↔ (x_rfv v ∧ 2 < L.length ∧ x_nl L 2 ∧ wX7_takeStep B ad K 59 (L.set 2 v) r σ) := xr_astore_n dX7_takeStep_58
theorem eX7_takeStep_59 : wX7_takeStep B ad K 59 L r σ ↔ ∃ v, L[1]? = some v ∧ x_rfv v ∧ wX7_takeStep B ad K 60 L (v :: r) σ := xr_aload_n dX7_takeStep_59
theorem eX7_takeStep_60 {a : Nat} : wX7_takeStep B ad K 60 L (.ref a :: r) σ ↔ ∃ fs v, σ.1 a = some (3, fs) ∧ fs[1]? = some v ∧ wX7_takeStep B ad K 63 L (v :: r) σ := xr_getfield (t := 3) (j := 1) dX7_takeStep_60 rfl
theorem eX7_takeStep_63 : wX7_takeStep B ad K 63 L r σ ↔ wX7_takeStep B ad K 66 L (.ref (ad 2) :: r) σ := xr_gets dX7_takeStep_63 rfl
theorem eX7_takeStep_66 {v u : Value} : wX7_takeStep B ad K 66 L (u :: v :: r) σ ↔ (x_rfv v ∧ x_rfv u ∧ (if v = u then wX7_takeStep B ad K 69 L r σ else wX7_takeStep B ad K 75 L r σ)) := (xr_acmp_ne dX7_takeStep_66 (by decide)).trans (and_congr_right fun _ => and_congr_right fun _ => x_ite)
theorem eX7_takeStep_69 : wX7_takeStep B ad K 69 L r σ ↔ ∃ v, L[2]? = some v ∧ x_rfv v ∧ wX7_takeStep B ad K 70 L (v :: r) σ := xr_aload_n dX7_takeStep_69
theorem eX7_takeStep_70 {v : Value} : wX7_takeStep B ad K 70 L (v :: r) σ ↔ (x_rfv v ∧ (if v = .null then wX7_takeStep B ad K 73 L r σ else wX7_takeStep B ad K 75 L r σ)) := (xr_ifnonnull dX7_takeStep_70 (by decide)).trans (and_congr_right fun _ => x_ite)
theorem eX7_takeStep_73 : wX7_takeStep B ad K 73 L r σ ↔ wX7_takeStep B ad K 74 L (.int 0 :: r) σ := xr_iconst dX7_takeStep_73 (by decide)
theorem eX7_takeStep_74 {x : Int32} : wX7_takeStep B ad K 74 L [.int x] σ ↔ ((x = 0 ∨ x = 1) ∧ K (some (.int x)) σ) := xr_zreturn dX7_takeStep_74
theorem eX7_takeStep_75 : wX7_takeStep B ad K 75 L r σ ↔ ∃ v, L[0]? = some v ∧ x_rfv v ∧ wX7_takeStep B ad K 76 L (v :: r) σ := xr_aload_n dX7_takeStep_75
theorem eX7_takeStep_76 {a : Nat} : wX7_takeStep B ad K 76 L (.ref a :: r) σ ↔ ∃ fs v, σ.1 a = some (7, fs) ∧ fs[7]? = some v ∧ wX7_takeStep B ad K 79 L (v :: r) σ := xr_getfield (t := 7) (j := 7) dX7_takeStep_76 rfl
theorem eX7_takeStep_79 : wX7_takeStep B ad K 79 L r σ ↔ ∃ v, L[1]? = some v ∧ x_rfv v ∧ wX7_takeStep B ad K 80 L (v :: r) σ := xr_aload_n dX7_takeStep_79
theorem eX7_takeStep_80 : wX7_takeStep B ad K 80 L r σ ↔ ∃ v, L[2]? = some v ∧ x_rfv v ∧ wX7_takeStep B ad K 81 L (v :: r) σ := xr_aload_n dX7_takeStep_80
theorem eX7_takeStep_81 {v0 v1 v2 : Value} : wX7_takeStep B ad K 81 L (v2 :: v1 :: v0 :: r) σ ↔ ((r.map fun v => v.category).sum ≤ 8 ∧ x_cl (x_v 1 (eX0_mayBreakBefore B ad)) [v0, v1, v2] σ (fun v g => wX7_takeStep B ad K 84 L (v.toList ++ r) g)) := xr_callV [v0, v1, v2] r dX7_takeStep_81 rfl
theorem eX7_takeStep_84 {x : Int32} : wX7_takeStep B ad K 84 L (.int x :: r) σ ↔ (if x = 0 then wX7_takeStep B ad K 107 L r σ else wX7_takeStep B ad K 87 L r σ) := (xr_if_eq dX7_takeStep_84 (by decide)).trans x_ite
theorem eX7_takeStep_87 : wX7_takeStep B ad K 87 L r σ ↔ ∃ v, L[0]? = some v ∧ x_rfv v ∧ wX7_takeStep B ad K 88 L (v :: r) σ := xr_aload_n dX7_takeStep_87
theorem eX7_takeStep_88 {a : Nat} : wX7_takeStep B ad K 88 L (.ref a :: r) σ ↔ ∃ fs v, σ.1 a = some (7, fs) ∧ fs[7]? = some v ∧ wX7_takeStep B ad K 91 L (v :: r) σ := xr_getfield (t := 7) (j := 7) dX7_takeStep_88 rfl
theorem eX7_takeStep_91 : wX7_takeStep B ad K 91 L r σ ↔ ∃ v, L[1]? = some v ∧ x_rfv v ∧ wX7_takeStep B ad K 92 L (v :: r) σ := xr_aload_n dX7_takeStep_91
theorem eX7_takeStep_92 {v0 : Value} : wX7_takeStep B ad K 92 L (v0 :: r) σ ↔ ((r.map fun v => v.category).sum ≤ 8 ∧ x_cl (x_v 3 (eX2_price B ad)) [v0] σ (fun v g => wX7_takeStep B ad K 95 L (v.toList ++ r) g)) := xr_callV [v0] r dX7_takeStep_92 rfl
theorem eX7_takeStep_95 {v0 v1 : Value} : wX7_takeStep B ad K 95 L (v1 :: v0 :: r) σ ↔ ((r.map fun v => v.category).sum ≤ 8 ∧ x_cl (x_v 1 (eX0_endsAt B ad)) [v0, v1] σ (fun v g => wX7_takeStep B ad K 98 L (v.toList ++ r) g)) := xr_callV [v0, v1] r dX7_takeStep_95 rfl
theorem eX7_takeStep_98 {x : Int32} : wX7_takeStep B ad K 98 L (.int x :: r) σ ↔ (if x = 0 then wX7_takeStep B ad K 107 L r σ else wX7_takeStep B ad K 101 L r σ) := (xr_if_eq dX7_takeStep_98 (by decide)).trans x_ite
theorem eX7_takeStep_101 : wX7_takeStep B ad K 101 L r σ ↔ ∃ v, L[0]? = some v ∧ x_rfv v ∧ wX7_takeStep B ad K 102 L (v :: r) σ := xr_aload_n dX7_takeStep_101
theorem eX7_takeStep_102 {v0 : Value} : wX7_takeStep B ad K 102 L (v0 :: r) σ ↔ ((r.map fun v => v.category).sum ≤ 8 ∧ x_cl (x_v 7 (eX7_endPage B ad)) [v0] σ (fun v g => wX7_takeStep B ad K 105 L (v.toList ++ r) g)) := xr_callV [v0] r dX7_takeStep_102 rfl
theorem eX7_takeStep_105 : wX7_takeStep B ad K 105 L r σ ↔ wX7_takeStep B ad K 106 L (.int 1 :: r) σ := xr_iconst dX7_takeStep_105 (by decide)
theorem eX7_takeStep_106 {x : Int32} : wX7_takeStep B ad K 106 L [.int x] σ ↔ ((x = 0 ∨ x = 1) ∧ K (some (.int x)) σ) := xr_zreturn dX7_takeStep_106
theorem eX7_takeStep_107 : wX7_takeStep B ad K 107 L r σ ↔ ∃ v, L[0]? = some v ∧ x_rfv v ∧ wX7_takeStep B ad K 108 L (v :: r) σ := xr_aload_n dX7_takeStep_107
theorem eX7_takeStep_108 {a : Nat} : wX7_takeStep B ad K 108 L (.ref a :: r) σ ↔ ∃ fs v, σ.1 a = some (7, fs) ∧ fs[6]? = some v ∧ wX7_takeStep B ad K 111 L (v :: r) σ := xr_getfield (t := 7) (j := 6) dX7_takeStep_108 rfl
theorem eX7_takeStep_111 {v0 : Value} : wX7_takeStep B ad K 111 L (v0 :: r) σ ↔ ((r.map fun v => v.category).sum ≤ 8 ∧ x_cl (x_v 4 (eX4_takeFirst B ad)) [v0] σ (fun v g => wX7_takeStep B ad K 114 L (v.toList ++ r) g)) := xr_callV [v0] r dX7_takeStep_111 rfl
theorem eX7_takeStep_114 {v : Value} : wX7_takeStep B ad K 114 L (v :: r) σ ↔ (v.category = 1 ∧ wX7_takeStep B ad K 115 L r σ) := xr_pop dX7_takeStep_114
theorem eX7_takeStep_115 : wX7_takeStep B ad K 115 L r σ ↔ ∃ v, L[0]? = some v ∧ x_rfv v ∧ wX7_takeStep B ad K 116 L (v :: r) σ := xr_aload_n dX7_takeStep_115
theorem eX7_takeStep_116 {a : Nat} : wX7_takeStep B ad K 116 L (.ref a :: r) σ ↔ ∃ fs v, σ.1 a = some (7, fs) ∧ fs[7]? = some v ∧ wX7_takeStep B ad K 119 L (v :: r) σ := xr_getfield (t := 7) (j := 7) dX7_takeStep_116 rfl
theorem eX7_takeStep_119 : wX7_takeStep B ad K 119 L r σ ↔ ∃ v, L[1]? = some v ∧ x_rfv v ∧ wX7_takeStep B ad K 120 L (v :: r) σ := xr_aload_n dX7_takeStep_119
theorem eX7_takeStep_120 {v0 v1 : Value} : wX7_takeStep B ad K 120 L (v1 :: v0 :: r) σ ↔ ((r.map fun v => v.category).sum ≤ 8 ∧ x_cl (x_v 1 (eX0_put B ad)) [v0, v1] σ (fun v g => wX7_takeStep B ad K 123 L (v.toList ++ r) g)) := xr_callV [v0, v1] r dX7_takeStep_120 rfl
theorem eX7_takeStep_123 : wX7_takeStep B ad K 123 L r σ ↔ wX7_takeStep B ad K 124 L (.int 1 :: r) σ := xr_iconst dX7_takeStep_123 (by decide)
theorem eX7_takeStep_124 {x : Int32} : wX7_takeStep B ad K 124 L [.int x] σ ↔ ((x = 0 ∨ x = 1) ∧ K (some (.int x)) σ) := xr_zreturn dX7_takeStep_124
end
abbrev wX7_run (B : Nat) (ad : Nat → Nat) (K : xK) : Nat → List Value → List Value → xW → Prop := x_WP B (some .int) (cxX7_run B ad) cX7_run K
section
variable {B : Nat} {ad : Nat → Nat} {K : xK} {L r : List Value} {σ : xW}
theorem eX7_run_0 : wX7_run B ad K 0 L r σ ↔ ∃ v, L[0]? = some v ∧ x_rfv v ∧ wX7_run B ad K 1 L (v :: r) σ := xr_aload_n dX7_run_0
theorem eX7_run_1 {a : Nat} : wX7_run B ad K 1 L (.ref a :: r) σ ↔ ∃ fs v, σ.1 a = some (7, fs) ∧ fs[5]? = some v ∧ wX7_run B ad K 4 L (v :: r) σ := xr_getfield (t := 7) (j := 5) dX7_run_1 rfl
theorem eX7_run_4 {v : Int32} : wX7_run B ad K 4 L (.int v :: r) σ ↔ (1 < L.length ∧ x_nl L 1 ∧ wX7_run B ad K 5 (L.set 1 (.int v)) r σ) := xr_istore_n dX7_run_4
theorem eX7_run_5 : wX7_run B ad K 5 L r σ ↔ wX7_run B ad K 6 L (.int 1 :: r) σ := xr_iconst dX7_run_5 (by decide)
theorem eX7_run_6 {v : Int32} : wX7_run B ad K 6 L (.int v :: r) σ ↔ (2 < L.length ∧ x_nl L 2 ∧ wX7_run B ad K 7 (L.set 2 (.int v)) r σ) := xr_istore_n dX7_run_6
theorem eX7_run_7 : wX7_run B ad K 7 L r σ ↔ wX7_run B ad K 8 L (.int 0 :: r) σ := xr_iconst dX7_run_7 (by decide)
theorem eX7_run_8 {v : Int32} : wX7_run B ad K 8 L (.int v :: r) σ ↔ (3 < L.length ∧ x_nl L 3 ∧ wX7_run B ad K 9 (L.set 3 (.int v)) r σ) := xr_istore_n dX7_run_8
theorem eX7_run_9 : wX7_run B ad K 9 L r σ ↔ ∃ v, L[2]? = some (.int v) ∧ wX7_run B ad K 10 L (.int v :: r) σ := xr_iload_n dX7_run_9
theorem eX7_run_10 {x : Int32} : wX7_run B ad K 10 L (.int x :: r) σ ↔ (if x = 0 then wX7_run B ad K 30 L r σ else wX7_run B ad K 13 L r σ) := (xr_if_eq dX7_run_10 (by decide)).trans x_ite
theorem eX7_run_13 : wX7_run B ad K 13 L r σ ↔ ∃ v, L[3]? = some (.int v) ∧ wX7_run B ad K 14 L (.int v :: r) σ := xr_iload_n dX7_run_13
theorem eX7_run_14 : wX7_run B ad K 14 L r σ ↔ wX7_run B ad K 16 L (.int 100000 :: r) σ := xr_ldc dX7_run_14 rfl
theorem eX7_run_16 {x y : Int32} : wX7_run B ad K 16 L (.int y :: .int x :: r) σ ↔ (if x.toInt < y.toInt then wX7_run B ad K 19 L r σ else wX7_run B ad K 30 L r σ) := (xr_icmp_ge dX7_run_16 (by decide)).trans x_ite
theorem eX7_run_19 : wX7_run B ad K 19 L r σ ↔ ∃ v, L[0]? = some v ∧ x_rfv v ∧ wX7_run B ad K 20 L (v :: r) σ := xr_aload_n dX7_run_19
theorem eX7_run_20 {v0 : Value} : wX7_run B ad K 20 L (v0 :: r) σ ↔ ((r.map fun v => v.category).sum ≤ 8 ∧ x_cl (x_v 7 (eX7_takeStep B ad)) [v0] σ (fun v g => wX7_run B ad K 23 L (v.toList ++ r) g)) := xr_callV [v0] r dX7_run_20 rfl
theorem eX7_run_23 {v : Int32} : wX7_run B ad K 23 L (.int v :: r) σ ↔ (2 < L.length ∧ x_nl L 2 ∧ wX7_run B ad K 24 (L.set 2 (.int v)) r σ) := xr_istore_n dX7_run_23
theorem eX7_run_24 : wX7_run B ad K 24 L r σ ↔ ∃ v, L[3]? = some (.int v) ∧ x_nl L 3 ∧ wX7_run B ad K 27 (L.set 3 (.int (v + 1))) r σ := xr_iinc dX7_run_24 (by decide)
theorem eX7_run_27 : wX7_run B ad K 27 L r σ ↔ wX7_run B ad K 9 L r σ := xr_goto dX7_run_27 (by decide)
theorem eX7_run_30 : wX7_run B ad K 30 L r σ ↔ ∃ v, L[0]? = some v ∧ x_rfv v ∧ wX7_run B ad K 31 L (v :: r) σ := xr_aload_n dX7_run_30
theorem eX7_run_31 {a : Nat} : wX7_run B ad K 31 L (.ref a :: r) σ ↔ ∃ fs v, σ.1 a = some (7, fs) ∧ fs[5]? = some v ∧ wX7_run B ad K 34 L (v :: r) σ := xr_getfield (t := 7) (j := 5) dX7_run_31 rfl
theorem eX7_run_34 : wX7_run B ad K 34 L r σ ↔ ∃ v, L[1]? = some (.int v) ∧ wX7_run B ad K 35 L (.int v :: r) σ := xr_iload_n dX7_run_34
theorem eX7_run_35 {x y : Int32} : wX7_run B ad K 35 L (.int y :: .int x :: r) σ ↔ wX7_run B ad K 36 L (.int (x - y) :: r) σ := xr_isub dX7_run_35
theorem eX7_run_36 {x : Int32} : wX7_run B ad K 36 L [.int x] σ ↔ K (some (.int x)) σ := xr_ireturn dX7_run_36
end
abbrev wX7_at (B : Nat) (ad : Nat → Nat) (K : xK) : Nat → List Value → List Value → xW → Prop := x_WP B (some .int) (cxX7_at B ad) cX7_at K
section
variable {B : Nat} {ad : Nat → Nat} {K : xK} {L r : List Value} {σ : xW}
theorem eX7_at_0 : wX7_at B ad K 0 L r σ ↔ ∃ v, L[0]? = some v ∧ x_rfv v ∧ wX7_at B ad K 1 L (v :: r) σ := xr_aload_n dX7_at_0
theorem eX7_at_1 : wX7_at B ad K 1 L r σ ↔ ∃ v, L[1]? = some (.int v) ∧ wX7_at B ad K 2 L (.int v :: r) σ := xr_iload_n dX7_at_1
theorem eX7_at_2 {v0 v1 : Value} : wX7_at B ad K 2 L (v1 :: v0 :: r) σ ↔ ((r.map fun v => v.category).sum ≤ 8 ∧ x_cl (x_v 7 (eX7_endedPage B ad)) [v0, v1] σ (fun v g => wX7_at B ad K 5 L (v.toList ++ r) g)) := xr_callV [v0, v1] r dX7_at_2 rfl
theorem eX7_at_5 {v : Value} : wX7_at B ad K 5 L (v :: r) σ ↔ (x_rfv v ∧ 3 < L.length ∧ x_nl L 3 ∧ wX7_at B ad K 6 (L.set 3 v) r σ) := xr_astore_n dX7_at_5
theorem eX7_at_6 : wX7_at B ad K 6 L r σ ↔ ∃ v, L[3]? = some v ∧ x_rfv v ∧ wX7_at B ad K 7 L (v :: r) σ := xr_aload_n dX7_at_6
theorem eX7_at_7 {v : Value} : wX7_at B ad K 7 L (v :: r) σ ↔ (x_rfv v ∧ (if v = .null then wX7_at B ad K 25 L r σ else wX7_at B ad K 10 L r σ)) := (xr_ifnull dX7_at_7 (by decide)).trans (and_congr_right fun _ => x_ite)
theorem eX7_at_10 : wX7_at B ad K 10 L r σ ↔ ∃ v, L[2]? = some (.int v) ∧ wX7_at B ad K 11 L (.int v :: r) σ := xr_iload_n dX7_at_10
theorem eX7_at_11 : wX7_at B ad K 11 L r σ ↔ wX7_at B ad K 12 L (.int 0 :: r) σ := xr_iconst dX7_at_11 (by decide)
theorem eX7_at_12 : wX7_at B ad K 12 L r σ ↔ ∃ v, L[3]? = some v ∧ x_rfv v ∧ wX7_at B ad K 13 L (v :: r) σ := xr_aload_n dX7_at_12
theorem eX7_at_13 {a : Nat} : wX7_at B ad K 13 L (.ref a :: r) σ ↔ ∃ fs v, σ.1 a = some (6, fs) ∧ fs[0]? = some v ∧ wX7_at B ad K 16 L (v :: r) σ := xr_getfield (t := 6) (j := 0) dX7_at_13 rfl
theorem eX7_at_16 {a : Nat} : wX7_at B ad K 16 L (.ref a :: r) σ ↔ ∃ t V, σ.1 a = some (t, V) ∧ 100 ≤ t ∧ t ≤ 106 ∧ wX7_at B ad K 17 L (.int (Int32.ofNat V.length) :: r) σ := xr_alen dX7_at_16
theorem eX7_at_17 : wX7_at B ad K 17 L r σ ↔ wX7_at B ad K 18 L (.int 1 :: r) σ := xr_iconst dX7_at_17 (by decide)
theorem eX7_at_18 {x y : Int32} : wX7_at B ad K 18 L (.int y :: .int x :: r) σ ↔ wX7_at B ad K 19 L (.int (x - y) :: r) σ := xr_isub dX7_at_18
theorem eX7_at_19 {v0 v1 v2 : Value} : wX7_at B ad K 19 L (v2 :: v1 :: v0 :: r) σ ↔ ((r.map fun v => v.category).sum ≤ 8 ∧ x_cl (eX7_within B ad) [v0, v1, v2] σ (fun v g => wX7_at B ad K 22 L (v.toList ++ r) g)) := xr_callS [v0, v1, v2] r dX7_at_19 rfl
theorem eX7_at_22 {x : Int32} : wX7_at B ad K 22 L (.int x :: r) σ ↔ (if x = 0 then wX7_at B ad K 25 L r σ else wX7_at B ad K 27 L r σ) := (xr_if_ne dX7_at_22 (by decide)).trans x_ite
theorem eX7_at_25 : wX7_at B ad K 25 L r σ ↔ wX7_at B ad K 26 L (.int (-1) :: r) σ := xr_iconst dX7_at_25 (by decide)
theorem eX7_at_26 {x : Int32} : wX7_at B ad K 26 L [.int x] σ ↔ K (some (.int x)) σ := xr_ireturn dX7_at_26
theorem eX7_at_27 : wX7_at B ad K 27 L r σ ↔ ∃ v, L[3]? = some v ∧ x_rfv v ∧ wX7_at B ad K 28 L (v :: r) σ := xr_aload_n dX7_at_27
theorem eX7_at_28 {a : Nat} : wX7_at B ad K 28 L (.ref a :: r) σ ↔ ∃ fs v, σ.1 a = some (6, fs) ∧ fs[0]? = some v ∧ wX7_at B ad K 31 L (v :: r) σ := xr_getfield (t := 6) (j := 0) dX7_at_28 rfl
theorem eX7_at_31 : wX7_at B ad K 31 L r σ ↔ ∃ v, L[2]? = some (.int v) ∧ wX7_at B ad K 32 L (.int v :: r) σ := xr_iload_n dX7_at_31
theorem eX7_at_32 {a : Nat} {x : Int32} : wX7_at B ad K 32 L (.int x :: .ref a :: r) σ ↔ ∃ t V v, σ.1 a = some (t, V) ∧ (t = 100 ∨ t = 106) ∧ x_ix x V = some v ∧ wX7_at B ad K 33 L (v :: r) σ := xr_iaload dX7_at_32
theorem eX7_at_33 {x : Int32} : wX7_at B ad K 33 L [.int x] σ ↔ K (some (.int x)) σ := xr_ireturn dX7_at_33
end
abbrev wX7_part (B : Nat) (ad : Nat → Nat) (K : xK) : Nat → List Value → List Value → xW → Prop := x_WP B (some .int) (cxX7_part B ad) cX7_part K
section
variable {B : Nat} {ad : Nat → Nat} {K : xK} {L r : List Value} {σ : xW}
theorem eX7_part_0 : wX7_part B ad K 0 L r σ ↔ ∃ v, L[0]? = some v ∧ x_rfv v ∧ wX7_part B ad K 1 L (v :: r) σ := xr_aload_n dX7_part_0
theorem eX7_part_1 : wX7_part B ad K 1 L r σ ↔ ∃ v, L[1]? = some (.int v) ∧ wX7_part B ad K 2 L (.int v :: r) σ := xr_iload_n dX7_part_1
theorem eX7_part_2 {v0 v1 : Value} : wX7_part B ad K 2 L (v1 :: v0 :: r) σ ↔ ((r.map fun v => v.category).sum ≤ 8 ∧ x_cl (x_v 7 (eX7_endedPage B ad)) [v0, v1] σ (fun v g => wX7_part B ad K 5 L (v.toList ++ r) g)) := xr_callV [v0, v1] r dX7_part_2 rfl
theorem eX7_part_5 {v : Value} : wX7_part B ad K 5 L (v :: r) σ ↔ (x_rfv v ∧ 3 < L.length ∧ x_nl L 3 ∧ wX7_part B ad K 6 (L.set 3 v) r σ) := xr_astore_n dX7_part_5
theorem eX7_part_6 : wX7_part B ad K 6 L r σ ↔ ∃ v, L[3]? = some v ∧ x_rfv v ∧ wX7_part B ad K 7 L (v :: r) σ := xr_aload_n dX7_part_6
theorem eX7_part_7 {v : Value} : wX7_part B ad K 7 L (v :: r) σ ↔ (x_rfv v ∧ (if v = .null then wX7_part B ad K 25 L r σ else wX7_part B ad K 10 L r σ)) := (xr_ifnull dX7_part_7 (by decide)).trans (and_congr_right fun _ => x_ite)
theorem eX7_part_10 : wX7_part B ad K 10 L r σ ↔ ∃ v, L[2]? = some (.int v) ∧ wX7_part B ad K 11 L (.int v :: r) σ := xr_iload_n dX7_part_10
theorem eX7_part_11 : wX7_part B ad K 11 L r σ ↔ wX7_part B ad K 12 L (.int 0 :: r) σ := xr_iconst dX7_part_11 (by decide)
theorem eX7_part_12 : wX7_part B ad K 12 L r σ ↔ ∃ v, L[3]? = some v ∧ x_rfv v ∧ wX7_part B ad K 13 L (v :: r) σ := xr_aload_n dX7_part_12
theorem eX7_part_13 {a : Nat} : wX7_part B ad K 13 L (.ref a :: r) σ ↔ ∃ fs v, σ.1 a = some (6, fs) ∧ fs[1]? = some v ∧ wX7_part B ad K 16 L (v :: r) σ := xr_getfield (t := 6) (j := 1) dX7_part_13 rfl
theorem eX7_part_16 {a : Nat} : wX7_part B ad K 16 L (.ref a :: r) σ ↔ ∃ t V, σ.1 a = some (t, V) ∧ 100 ≤ t ∧ t ≤ 106 ∧ wX7_part B ad K 17 L (.int (Int32.ofNat V.length) :: r) σ := xr_alen dX7_part_16
theorem eX7_part_17 : wX7_part B ad K 17 L r σ ↔ wX7_part B ad K 18 L (.int 1 :: r) σ := xr_iconst dX7_part_17 (by decide)
theorem eX7_part_18 {x y : Int32} : wX7_part B ad K 18 L (.int y :: .int x :: r) σ ↔ wX7_part B ad K 19 L (.int (x - y) :: r) σ := xr_isub dX7_part_18
theorem eX7_part_19 {v0 v1 v2 : Value} : wX7_part B ad K 19 L (v2 :: v1 :: v0 :: r) σ ↔ ((r.map fun v => v.category).sum ≤ 8 ∧ x_cl (eX7_within B ad) [v0, v1, v2] σ (fun v g => wX7_part B ad K 22 L (v.toList ++ r) g)) := xr_callS [v0, v1, v2] r dX7_part_19 rfl
theorem eX7_part_22 {x : Int32} : wX7_part B ad K 22 L (.int x :: r) σ ↔ (if x = 0 then wX7_part B ad K 25 L r σ else wX7_part B ad K 27 L r σ) := (xr_if_ne dX7_part_22 (by decide)).trans x_ite
theorem eX7_part_25 : wX7_part B ad K 25 L r σ ↔ wX7_part B ad K 26 L (.int 0 :: r) σ := xr_iconst dX7_part_25 (by decide)
theorem eX7_part_26 {x : Int32} : wX7_part B ad K 26 L [.int x] σ ↔ K (some (.int x)) σ := xr_ireturn dX7_part_26
theorem eX7_part_27 : wX7_part B ad K 27 L r σ ↔ ∃ v, L[3]? = some v ∧ x_rfv v ∧ wX7_part B ad K 28 L (v :: r) σ := xr_aload_n dX7_part_27
theorem eX7_part_28 {a : Nat} : wX7_part B ad K 28 L (.ref a :: r) σ ↔ ∃ fs v, σ.1 a = some (6, fs) ∧ fs[1]? = some v ∧ wX7_part B ad K 31 L (v :: r) σ := xr_getfield (t := 6) (j := 1) dX7_part_28 rfl
theorem eX7_part_31 : wX7_part B ad K 31 L r σ ↔ ∃ v, L[2]? = some (.int v) ∧ wX7_part B ad K 32 L (.int v :: r) σ := xr_iload_n dX7_part_31
theorem eX7_part_32 {a : Nat} {x : Int32} : wX7_part B ad K 32 L (.int x :: .ref a :: r) σ ↔ ∃ t V v, σ.1 a = some (t, V) ∧ (t = 100 ∨ t = 106) ∧ x_ix x V = some v ∧ wX7_part B ad K 33 L (v :: r) σ := xr_iaload dX7_part_32
theorem eX7_part_33 {x : Int32} : wX7_part B ad K 33 L [.int x] σ ↔ K (some (.int x)) σ := xr_ireturn dX7_part_33
end
