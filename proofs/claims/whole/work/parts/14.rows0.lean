abbrev wX5_init (B : Nat) (ad : Nat → Nat) (K : xK) : Nat → List Value → List Value → xW → Prop := x_WP B none (cxX5_init B ad) cX5_init K
section
variable {B : Nat} {ad : Nat → Nat} {K : xK} {L r : List Value} {σ : xW}
theorem eX5_init_0 : wX5_init B ad K 0 L r σ ↔ ∃ v, L[0]? = some v ∧ x_rfv v ∧ wX5_init B ad K 1 L (v :: r) σ := xr_aload_n dX5_init_0
theorem eX5_init_1 {v0 : Value} : wX5_init B ad K 1 L (v0 :: r) σ ↔ ((r.map fun v => v.category).sum ≤ 8 ∧ x_cl (x_obj) [v0] σ (fun v g => wX5_init B ad K 4 L (v.toList ++ r) g)) := xr_callI [v0] r dX5_init_1 rfl
theorem eX5_init_4 : wX5_init B ad K 4 L r σ ↔ ∃ v, L[0]? = some v ∧ x_rfv v ∧ wX5_init B ad K 5 L (v :: r) σ := xr_aload_n dX5_init_4
theorem eX5_init_5 : wX5_init B ad K 5 L r σ ↔ wX5_init B ad K 6 L (.int 4 :: r) σ := xr_iconst dX5_init_5 (by decide)
theorem eX5_init_6 {x : Int32} : wX5_init B ad K 6 L (.int x :: r) σ ↔ (¬ x.toInt < 0 ∧ x.toInt ≤ 60000000 ∧ wX5_init B ad K 8 L (.ref σ.2.1 :: r) (x_up σ.1 σ.2.1 (101, List.replicate x.toInt.toNat (.long 0)), σ.2.1 + 1, σ.2.2 + x.toInt.toNat)) := xr_newarray (t := 101) dX5_init_6 rfl
theorem eX5_init_8 {v : Value} {a : Nat} : wX5_init B ad K 8 L (v :: .ref a :: r) σ ↔ ∃ fs, σ.1 a = some (5, fs) ∧ 4 < fs.length ∧ B ≤ a ∧ x_rfv v ∧ wX5_init B ad K 11 L r (x_up σ.1 a (5, fs.set 4 (v)), σ.2) := xr_put_a (t := 5) (j := 4) dX5_init_8 rfl (by decide)
theorem eX5_init_11 : wX5_init B ad K 11 L r σ ↔ ∃ v, L[0]? = some v ∧ x_rfv v ∧ wX5_init B ad K 12 L (v :: r) σ := xr_aload_n dX5_init_11
theorem eX5_init_12 : wX5_init B ad K 12 L r σ ↔ wX5_init B ad K 13 L (.int 4 :: r) σ := xr_iconst dX5_init_12 (by decide)
theorem eX5_init_13 {x : Int32} : wX5_init B ad K 13 L (.int x :: r) σ ↔ (¬ x.toInt < 0 ∧ x.toInt ≤ 60000000 ∧ wX5_init B ad K 15 L (.ref σ.2.1 :: r) (x_up σ.1 σ.2.1 (101, List.replicate x.toInt.toNat (.long 0)), σ.2.1 + 1, σ.2.2 + x.toInt.toNat)) := xr_newarray (t := 101) dX5_init_13 rfl
theorem eX5_init_15 {v : Value} {a : Nat} : wX5_init B ad K 15 L (v :: .ref a :: r) σ ↔ ∃ fs, σ.1 a = some (5, fs) ∧ 5 < fs.length ∧ B ≤ a ∧ x_rfv v ∧ wX5_init B ad K 18 L r (x_up σ.1 a (5, fs.set 5 (v)), σ.2) := xr_put_a (t := 5) (j := 5) dX5_init_15 rfl (by decide)
theorem eX5_init_18 : wX5_init B ad K 18 L [] σ ↔ K none σ := xr_return dX5_init_18
end
abbrev wX0_init (B : Nat) (ad : Nat → Nat) (K : xK) : Nat → List Value → List Value → xW → Prop := x_WP B none (cxX0_init B ad) cX0_init K
section
variable {B : Nat} {ad : Nat → Nat} {K : xK} {L r : List Value} {σ : xW}
theorem eX0_init_0 : wX0_init B ad K 0 L r σ ↔ ∃ v, L[0]? = some v ∧ x_rfv v ∧ wX0_init B ad K 1 L (v :: r) σ := xr_aload_n dX0_init_0
theorem eX0_init_1 {v0 : Value} : wX0_init B ad K 1 L (v0 :: r) σ ↔ ((r.map fun v => v.category).sum ≤ 8 ∧ x_cl (x_obj) [v0] σ (fun v g => wX0_init B ad K 4 L (v.toList ++ r) g)) := xr_callI [v0] r dX0_init_1 rfl
theorem eX0_init_4 : wX0_init B ad K 4 L r σ ↔ ∃ v, L[0]? = some v ∧ x_rfv v ∧ wX0_init B ad K 5 L (v :: r) σ := xr_aload_n dX0_init_4
theorem eX0_init_5 : wX0_init B ad K 5 L r σ ↔ wX0_init B ad K 8 L (.int 400 :: r) σ := xr_sipush dX0_init_5 (by decide)
theorem eX0_init_8 {x : Int32} : wX0_init B ad K 8 L (.int x :: r) σ ↔ (¬ x.toInt < 0 ∧ x.toInt ≤ 60000000 ∧ wX0_init B ad K 11 L (.ref σ.2.1 :: r) (x_up σ.1 σ.2.1 (103, List.replicate x.toInt.toNat .null), σ.2.1 + 1, σ.2.2 + x.toInt.toNat)) := xr_anewarray (t := 103) dX0_init_8 rfl
theorem eX0_init_11 {v : Value} {a : Nat} : wX0_init B ad K 11 L (v :: .ref a :: r) σ ↔ ∃ fs, σ.1 a = some (1, fs) ∧ 0 < fs.length ∧ B ≤ a ∧ x_rfv v ∧ wX0_init B ad K 14 L r (x_up σ.1 a (1, fs.set 0 (v)), σ.2) := xr_put_a (t := 1) (j := 0) dX0_init_11 rfl (by decide)
theorem eX0_init_14 : wX0_init B ad K 14 L r σ ↔ ∃ v, L[0]? = some v ∧ x_rfv v ∧ wX0_init B ad K 15 L (v :: r) σ := xr_aload_n dX0_init_14
theorem eX0_init_15 : wX0_init B ad K 15 L r σ ↔ wX0_init B ad K 18 L (.int 400 :: r) σ := xr_sipush dX0_init_15 (by decide)
theorem eX0_init_18 {x : Int32} : wX0_init B ad K 18 L (.int x :: r) σ ↔ (¬ x.toInt < 0 ∧ x.toInt ≤ 60000000 ∧ wX0_init B ad K 20 L (.ref σ.2.1 :: r) (x_up σ.1 σ.2.1 (100, List.replicate x.toInt.toNat (.int 0)), σ.2.1 + 1, σ.2.2 + x.toInt.toNat)) := xr_newarray (t := 100) dX0_init_18 rfl
theorem eX0_init_20 {v : Value} {a : Nat} : wX0_init B ad K 20 L (v :: .ref a :: r) σ ↔ ∃ fs, σ.1 a = some (1, fs) ∧ 1 < fs.length ∧ B ≤ a ∧ x_rfv v ∧ wX0_init B ad K 23 L r (x_up σ.1 a (1, fs.set 1 (v)), σ.2) := xr_put_a (t := 1) (j := 1) dX0_init_20 rfl (by decide)
theorem eX0_init_23 : wX0_init B ad K 23 L r σ ↔ ∃ v, L[0]? = some v ∧ x_rfv v ∧ wX0_init B ad K 24 L (v :: r) σ := xr_aload_n dX0_init_23
theorem eX0_init_24 : wX0_init B ad K 24 L r σ ↔ wX0_init B ad K 27 L (.ref σ.2.1 :: r) (x_up σ.1 σ.2.1 (5, [.long 0, .long 0, .long 0, .long 0, .null, .null]), σ.2.1 + 1, σ.2.2 + 6) := xr_new (t := 5) dX0_init_24 rfl
theorem eX0_init_27 {v : Value} : wX0_init B ad K 27 L (v :: r) σ ↔ (v.category = 1 ∧ wX0_init B ad K 28 L (v :: v :: r) σ) := xr_dup dX0_init_27
theorem eX0_init_28 {v0 : Value} : wX0_init B ad K 28 L (v0 :: r) σ ↔ ((r.map fun v => v.category).sum ≤ 8 ∧ x_cl (x_n1 (eX5_init B ad)) [v0] σ (fun v g => wX0_init B ad K 31 L (v.toList ++ r) g)) := xr_callI [v0] r dX0_init_28 rfl
theorem eX0_init_31 {v : Value} {a : Nat} : wX0_init B ad K 31 L (v :: .ref a :: r) σ ↔ ∃ fs, σ.1 a = some (1, fs) ∧ 6 < fs.length ∧ B ≤ a ∧ x_rfv v ∧ wX0_init B ad K 34 L r (x_up σ.1 a (1, fs.set 6 (v)), σ.2) := xr_put_o (t := 1) (j := 6) dX0_init_31 rfl (by decide)
theorem eX0_init_34 : wX0_init B ad K 34 L r σ ↔ ∃ v, L[0]? = some v ∧ x_rfv v ∧ wX0_init B ad K 35 L (v :: r) σ := xr_aload_n dX0_init_34
theorem eX0_init_35 : wX0_init B ad K 35 L r σ ↔ wX0_init B ad K 36 L (.int 4 :: r) σ := xr_iconst dX0_init_35 (by decide)
theorem eX0_init_36 {x : Int32} : wX0_init B ad K 36 L (.int x :: r) σ ↔ (¬ x.toInt < 0 ∧ x.toInt ≤ 60000000 ∧ wX0_init B ad K 38 L (.ref σ.2.1 :: r) (x_up σ.1 σ.2.1 (102, List.replicate x.toInt.toNat (.int 0)), σ.2.1 + 1, σ.2.2 + x.toInt.toNat)) := xr_newarray (t := 102) dX0_init_36 rfl
theorem eX0_init_38 {v : Value} {a : Nat} : wX0_init B ad K 38 L (v :: .ref a :: r) σ ↔ ∃ fs, σ.1 a = some (1, fs) ∧ 7 < fs.length ∧ B ≤ a ∧ x_rfv v ∧ wX0_init B ad K 41 L r (x_up σ.1 a (1, fs.set 7 (v)), σ.2) := xr_put_a (t := 1) (j := 7) dX0_init_38 rfl (by decide)
theorem eX0_init_41 : wX0_init B ad K 41 L r σ ↔ ∃ v, L[0]? = some v ∧ x_rfv v ∧ wX0_init B ad K 42 L (v :: r) σ := xr_aload_n dX0_init_41
theorem eX0_init_42 : wX0_init B ad K 42 L r σ ↔ wX0_init B ad K 43 L (.int 4 :: r) σ := xr_iconst dX0_init_42 (by decide)
theorem eX0_init_43 {x : Int32} : wX0_init B ad K 43 L (.int x :: r) σ ↔ (¬ x.toInt < 0 ∧ x.toInt ≤ 60000000 ∧ wX0_init B ad K 45 L (.ref σ.2.1 :: r) (x_up σ.1 σ.2.1 (102, List.replicate x.toInt.toNat (.int 0)), σ.2.1 + 1, σ.2.2 + x.toInt.toNat)) := xr_newarray (t := 102) dX0_init_43 rfl
theorem eX0_init_45 {v : Value} {a : Nat} : wX0_init B ad K 45 L (v :: .ref a :: r) σ ↔ ∃ fs, σ.1 a = some (1, fs) ∧ 8 < fs.length ∧ B ≤ a ∧ x_rfv v ∧ wX0_init B ad K 48 L r (x_up σ.1 a (1, fs.set 8 (v)), σ.2) := xr_put_a (t := 1) (j := 8) dX0_init_45 rfl (by decide)
theorem eX0_init_48 : wX0_init B ad K 48 L r σ ↔ ∃ v, L[0]? = some v ∧ x_rfv v ∧ wX0_init B ad K 49 L (v :: r) σ := xr_aload_n dX0_init_48
theorem eX0_init_49 : wX0_init B ad K 49 L r σ ↔ wX0_init B ad K 52 L (.ref σ.2.1 :: r) (x_up σ.1 σ.2.1 (5, [.long 0, .long 0, .long 0, .long 0, .null, .null]), σ.2.1 + 1, σ.2.2 + 6) := xr_new (t := 5) dX0_init_49 rfl
theorem eX0_init_52 {v : Value} : wX0_init B ad K 52 L (v :: r) σ ↔ (v.category = 1 ∧ wX0_init B ad K 53 L (v :: v :: r) σ) := xr_dup dX0_init_52
theorem eX0_init_53 {v0 : Value} : wX0_init B ad K 53 L (v0 :: r) σ ↔ ((r.map fun v => v.category).sum ≤ 8 ∧ x_cl (x_n1 (eX5_init B ad)) [v0] σ (fun v g => wX0_init B ad K 56 L (v.toList ++ r) g)) := xr_callI [v0] r dX0_init_53 rfl
theorem eX0_init_56 {v : Value} {a : Nat} : wX0_init B ad K 56 L (v :: .ref a :: r) σ ↔ ∃ fs, σ.1 a = some (1, fs) ∧ 13 < fs.length ∧ B ≤ a ∧ x_rfv v ∧ wX0_init B ad K 59 L r (x_up σ.1 a (1, fs.set 13 (v)), σ.2) := xr_put_o (t := 1) (j := 13) dX0_init_56 rfl (by decide)
theorem eX0_init_59 : wX0_init B ad K 59 L [] σ ↔ K none σ := xr_return dX0_init_59
end
abbrev wX5_clear (B : Nat) (ad : Nat → Nat) (K : xK) : Nat → List Value → List Value → xW → Prop := x_WP B none (cxX5_clear B ad) cX5_clear K
section
variable {B : Nat} {ad : Nat → Nat} {K : xK} {L r : List Value} {σ : xW}
theorem eX5_clear_0 : wX5_clear B ad K 0 L r σ ↔ ∃ v, L[0]? = some v ∧ x_rfv v ∧ wX5_clear B ad K 1 L (v :: r) σ := xr_aload_n dX5_clear_0
theorem eX5_clear_1 : wX5_clear B ad K 1 L r σ ↔ wX5_clear B ad K 2 L (.long 0 :: r) σ := xr_lconst dX5_clear_1 (by decide)
theorem eX5_clear_2 {x : Int64} {a : Nat} : wX5_clear B ad K 2 L (.long x :: .ref a :: r) σ ↔ ∃ fs, σ.1 a = some (5, fs) ∧ 0 < fs.length ∧ B ≤ a ∧ wX5_clear B ad K 5 L r (x_up σ.1 a (5, fs.set 0 (.long x)), σ.2) := xr_put_l (t := 5) (j := 0) dX5_clear_2 rfl (by decide)
theorem eX5_clear_5 : wX5_clear B ad K 5 L r σ ↔ ∃ v, L[0]? = some v ∧ x_rfv v ∧ wX5_clear B ad K 6 L (v :: r) σ := xr_aload_n dX5_clear_5
theorem eX5_clear_6 : wX5_clear B ad K 6 L r σ ↔ ∃ v, L[1]? = some (.long v) ∧ wX5_clear B ad K 7 L (.long v :: r) σ := xr_lload_n dX5_clear_6
theorem eX5_clear_7 {x : Int64} {a : Nat} : wX5_clear B ad K 7 L (.long x :: .ref a :: r) σ ↔ ∃ fs, σ.1 a = some (5, fs) ∧ 1 < fs.length ∧ B ≤ a ∧ wX5_clear B ad K 10 L r (x_up σ.1 a (5, fs.set 1 (.long x)), σ.2) := xr_put_l (t := 5) (j := 1) dX5_clear_7 rfl (by decide)
theorem eX5_clear_10 : wX5_clear B ad K 10 L r σ ↔ ∃ v, L[0]? = some v ∧ x_rfv v ∧ wX5_clear B ad K 11 L (v :: r) σ := xr_aload_n dX5_clear_10
theorem eX5_clear_11 : wX5_clear B ad K 11 L r σ ↔ wX5_clear B ad K 12 L (.long 0 :: r) σ := xr_lconst dX5_clear_11 (by decide)
theorem eX5_clear_12 {x : Int64} {a : Nat} : wX5_clear B ad K 12 L (.long x :: .ref a :: r) σ ↔ ∃ fs, σ.1 a = some (5, fs) ∧ 2 < fs.length ∧ B ≤ a ∧ wX5_clear B ad K 15 L r (x_up σ.1 a (5, fs.set 2 (.long x)), σ.2) := xr_put_l (t := 5) (j := 2) dX5_clear_12 rfl (by decide)
theorem eX5_clear_15 : wX5_clear B ad K 15 L r σ ↔ ∃ v, L[0]? = some v ∧ x_rfv v ∧ wX5_clear B ad K 16 L (v :: r) σ := xr_aload_n dX5_clear_15
theorem eX5_clear_16 : wX5_clear B ad K 16 L r σ ↔ wX5_clear B ad K 17 L (.long 0 :: r) σ := xr_lconst dX5_clear_16 (by decide)
theorem eX5_clear_17 {x : Int64} {a : Nat} : wX5_clear B ad K 17 L (.long x :: .ref a :: r) σ ↔ ∃ fs, σ.1 a = some (5, fs) ∧ 3 < fs.length ∧ B ≤ a ∧ wX5_clear B ad K 20 L r (x_up σ.1 a (5, fs.set 3 (.long x)), σ.2) := xr_put_l (t := 5) (j := 3) dX5_clear_17 rfl (by decide)
theorem eX5_clear_20 : wX5_clear B ad K 20 L r σ ↔ wX5_clear B ad K 21 L (.int 0 :: r) σ := xr_iconst dX5_clear_20 (by decide)
theorem eX5_clear_21 {v : Int32} : wX5_clear B ad K 21 L (.int v :: r) σ ↔ (3 < L.length ∧ x_nl L 3 ∧ wX5_clear B ad K 22 (L.set 3 (.int v)) r σ) := xr_istore_n dX5_clear_21
theorem eX5_clear_22 : wX5_clear B ad K 22 L r σ ↔ ∃ v, L[3]? = some (.int v) ∧ wX5_clear B ad K 23 L (.int v :: r) σ := xr_iload_n dX5_clear_22
theorem eX5_clear_23 : wX5_clear B ad K 23 L r σ ↔ wX5_clear B ad K 24 L (.int 4 :: r) σ := xr_iconst dX5_clear_23 (by decide)
theorem eX5_clear_24 {x y : Int32} : wX5_clear B ad K 24 L (.int y :: .int x :: r) σ ↔ (if x.toInt < y.toInt then wX5_clear B ad K 27 L r σ else wX5_clear B ad K 40 L r σ) := (xr_icmp_ge dX5_clear_24 (by decide)).trans x_ite
theorem eX5_clear_27 : wX5_clear B ad K 27 L r σ ↔ ∃ v, L[0]? = some v ∧ x_rfv v ∧ wX5_clear B ad K 28 L (v :: r) σ := xr_aload_n dX5_clear_27
theorem eX5_clear_28 {a : Nat} : wX5_clear B ad K 28 L (.ref a :: r) σ ↔ ∃ fs v, σ.1 a = some (5, fs) ∧ fs[4]? = some v ∧ wX5_clear B ad K 31 L (v :: r) σ := xr_getfield (t := 5) (j := 4) dX5_clear_28 rfl
theorem eX5_clear_31 : wX5_clear B ad K 31 L r σ ↔ ∃ v, L[3]? = some (.int v) ∧ wX5_clear B ad K 32 L (.int v :: r) σ := xr_iload_n dX5_clear_31
theorem eX5_clear_32 : wX5_clear B ad K 32 L r σ ↔ wX5_clear B ad K 33 L (.long 0 :: r) σ := xr_lconst dX5_clear_32 (by decide)
theorem eX5_clear_33 {a : Nat} {j : Int32} {x : Int64} : wX5_clear B ad K 33 L (.long x :: .int j :: .ref a :: r) σ ↔ ∃ V, σ.1 a = some (101, V) ∧ (x_ix j V).isSome ∧ B ≤ a ∧ wX5_clear B ad K 34 L r (x_up σ.1 a (101, V.set j.toInt.toNat (.long x)), σ.2) := xr_lastore dX5_clear_33
theorem eX5_clear_34 : wX5_clear B ad K 34 L r σ ↔ ∃ v, L[3]? = some (.int v) ∧ x_nl L 3 ∧ wX5_clear B ad K 37 (L.set 3 (.int (v + 1))) r σ := xr_iinc dX5_clear_34 (by decide)
theorem eX5_clear_37 : wX5_clear B ad K 37 L r σ ↔ wX5_clear B ad K 22 L r σ := xr_goto dX5_clear_37 (by decide)
theorem eX5_clear_40 : wX5_clear B ad K 40 L r σ ↔ wX5_clear B ad K 41 L (.int 0 :: r) σ := xr_iconst dX5_clear_40 (by decide)
theorem eX5_clear_41 {v : Int32} : wX5_clear B ad K 41 L (.int v :: r) σ ↔ (3 < L.length ∧ x_nl L 3 ∧ wX5_clear B ad K 42 (L.set 3 (.int v)) r σ) := xr_istore_n dX5_clear_41
theorem eX5_clear_42 : wX5_clear B ad K 42 L r σ ↔ ∃ v, L[3]? = some (.int v) ∧ wX5_clear B ad K 43 L (.int v :: r) σ := xr_iload_n dX5_clear_42
theorem eX5_clear_43 : wX5_clear B ad K 43 L r σ ↔ wX5_clear B ad K 44 L (.int 4 :: r) σ := xr_iconst dX5_clear_43 (by decide)
theorem eX5_clear_44 {x y : Int32} : wX5_clear B ad K 44 L (.int y :: .int x :: r) σ ↔ (if x.toInt < y.toInt then wX5_clear B ad K 47 L r σ else wX5_clear B ad K 60 L r σ) := (xr_icmp_ge dX5_clear_44 (by decide)).trans x_ite
theorem eX5_clear_47 : wX5_clear B ad K 47 L r σ ↔ ∃ v, L[0]? = some v ∧ x_rfv v ∧ wX5_clear B ad K 48 L (v :: r) σ := xr_aload_n dX5_clear_47
theorem eX5_clear_48 {a : Nat} : wX5_clear B ad K 48 L (.ref a :: r) σ ↔ ∃ fs v, σ.1 a = some (5, fs) ∧ fs[5]? = some v ∧ wX5_clear B ad K 51 L (v :: r) σ := xr_getfield (t := 5) (j := 5) dX5_clear_48 rfl
theorem eX5_clear_51 : wX5_clear B ad K 51 L r σ ↔ ∃ v, L[3]? = some (.int v) ∧ wX5_clear B ad K 52 L (.int v :: r) σ := xr_iload_n dX5_clear_51
theorem eX5_clear_52 : wX5_clear B ad K 52 L r σ ↔ wX5_clear B ad K 53 L (.long 0 :: r) σ := xr_lconst dX5_clear_52 (by decide)
theorem eX5_clear_53 {a : Nat} {j : Int32} {x : Int64} : wX5_clear B ad K 53 L (.long x :: .int j :: .ref a :: r) σ ↔ ∃ V, σ.1 a = some (101, V) ∧ (x_ix j V).isSome ∧ B ≤ a ∧ wX5_clear B ad K 54 L r (x_up σ.1 a (101, V.set j.toInt.toNat (.long x)), σ.2) := xr_lastore dX5_clear_53
theorem eX5_clear_54 : wX5_clear B ad K 54 L r σ ↔ ∃ v, L[3]? = some (.int v) ∧ x_nl L 3 ∧ wX5_clear B ad K 57 (L.set 3 (.int (v + 1))) r σ := xr_iinc dX5_clear_54 (by decide)
theorem eX5_clear_57 : wX5_clear B ad K 57 L r σ ↔ wX5_clear B ad K 42 L r σ := xr_goto dX5_clear_57 (by decide)
theorem eX5_clear_60 : wX5_clear B ad K 60 L [] σ ↔ K none σ := xr_return dX5_clear_60
end
abbrev wX0_begin (B : Nat) (ad : Nat → Nat) (K : xK) : Nat → List Value → List Value → xW → Prop := x_WP B none (cxX0_begin B ad) cX0_begin K
section
variable {B : Nat} {ad : Nat → Nat} {K : xK} {L r : List Value} {σ : xW}
theorem eX0_begin_0 : wX0_begin B ad K 0 L r σ ↔ ∃ v, L[0]? = some v ∧ x_rfv v ∧ wX0_begin B ad K 1 L (v :: r) σ := xr_aload_n dX0_begin_0
theorem eX0_begin_1 : wX0_begin B ad K 1 L r σ ↔ wX0_begin B ad K 2 L (.int 0 :: r) σ := xr_iconst dX0_begin_1 (by decide)
theorem eX0_begin_2 {x : Int32} {a : Nat} : wX0_begin B ad K 2 L (.int x :: .ref a :: r) σ ↔ ∃ fs, σ.1 a = some (1, fs) ∧ 2 < fs.length ∧ B ≤ a ∧ wX0_begin B ad K 5 L r (x_up σ.1 a (1, fs.set 2 (.int x)), σ.2) := xr_put_i (t := 1) (j := 2) dX0_begin_2 rfl (by decide)
theorem eX0_begin_5 : wX0_begin B ad K 5 L r σ ↔ ∃ v, L[0]? = some v ∧ x_rfv v ∧ wX0_begin B ad K 6 L (v :: r) σ := xr_aload_n dX0_begin_5
theorem eX0_begin_6 : wX0_begin B ad K 6 L r σ ↔ wX0_begin B ad K 7 L (.int 0 :: r) σ := xr_iconst dX0_begin_6 (by decide)
theorem eX0_begin_7 {x : Int32} {a : Nat} : wX0_begin B ad K 7 L (.int x :: .ref a :: r) σ ↔ ∃ fs, σ.1 a = some (1, fs) ∧ 3 < fs.length ∧ B ≤ a ∧ (x = 0 ∨ x = 1) ∧ wX0_begin B ad K 10 L r (x_up σ.1 a (1, fs.set 3 (.int x)), σ.2) := xr_put_z (t := 1) (j := 3) dX0_begin_7 rfl (by decide)
theorem eX0_begin_10 : wX0_begin B ad K 10 L r σ ↔ ∃ v, L[0]? = some v ∧ x_rfv v ∧ wX0_begin B ad K 11 L (v :: r) σ := xr_aload_n dX0_begin_10
theorem eX0_begin_11 : wX0_begin B ad K 11 L r σ ↔ ∃ v, L[2]? = some (.int v) ∧ wX0_begin B ad K 12 L (.int v :: r) σ := xr_iload_n dX0_begin_11
theorem eX0_begin_12 {x : Int32} : wX0_begin B ad K 12 L (.int x :: r) σ ↔ wX0_begin B ad K 13 L (.long x.toInt64 :: r) σ := xr_i2l dX0_begin_12
theorem eX0_begin_13 {x : Int64} {a : Nat} : wX0_begin B ad K 13 L (.long x :: .ref a :: r) σ ↔ ∃ fs, σ.1 a = some (1, fs) ∧ 4 < fs.length ∧ B ≤ a ∧ wX0_begin B ad K 16 L r (x_up σ.1 a (1, fs.set 4 (.long x)), σ.2) := xr_put_l (t := 1) (j := 4) dX0_begin_13 rfl (by decide)
theorem eX0_begin_16 : wX0_begin B ad K 16 L r σ ↔ ∃ v, L[0]? = some v ∧ x_rfv v ∧ wX0_begin B ad K 17 L (v :: r) σ := xr_aload_n dX0_begin_16
theorem eX0_begin_17 : wX0_begin B ad K 17 L r σ ↔ ∃ v, L[3]? = some (.int v) ∧ wX0_begin B ad K 18 L (.int v :: r) σ := xr_iload_n dX0_begin_17
theorem eX0_begin_18 {x : Int32} : wX0_begin B ad K 18 L (.int x :: r) σ ↔ wX0_begin B ad K 19 L (.long x.toInt64 :: r) σ := xr_i2l dX0_begin_18
theorem eX0_begin_19 {x : Int64} {a : Nat} : wX0_begin B ad K 19 L (.long x :: .ref a :: r) σ ↔ ∃ fs, σ.1 a = some (1, fs) ∧ 5 < fs.length ∧ B ≤ a ∧ wX0_begin B ad K 22 L r (x_up σ.1 a (1, fs.set 5 (.long x)), σ.2) := xr_put_l (t := 1) (j := 5) dX0_begin_19 rfl (by decide)
theorem eX0_begin_22 : wX0_begin B ad K 22 L r σ ↔ ∃ v, L[0]? = some v ∧ x_rfv v ∧ wX0_begin B ad K 23 L (v :: r) σ := xr_aload_n dX0_begin_22
theorem eX0_begin_23 {a : Nat} : wX0_begin B ad K 23 L (.ref a :: r) σ ↔ ∃ fs v, σ.1 a = some (1, fs) ∧ fs[6]? = some v ∧ wX0_begin B ad K 26 L (v :: r) σ := xr_getfield (t := 1) (j := 6) dX0_begin_23 rfl
theorem eX0_begin_26 : wX0_begin B ad K 26 L r σ ↔ ∃ v, L[1]? = some (.int v) ∧ wX0_begin B ad K 27 L (.int v :: r) σ := xr_iload_n dX0_begin_26
theorem eX0_begin_27 {x : Int32} : wX0_begin B ad K 27 L (.int x :: r) σ ↔ wX0_begin B ad K 28 L (.long x.toInt64 :: r) σ := xr_i2l dX0_begin_27
theorem eX0_begin_28 {v0 v1 : Value} : wX0_begin B ad K 28 L (v1 :: v0 :: r) σ ↔ ((r.map fun v => v.category).sum ≤ 8 ∧ x_cl (x_v 5 (eX5_clear B ad)) [v0, v1] σ (fun v g => wX0_begin B ad K 31 L (v.toList ++ r) g)) := xr_callV [v0, v1] r dX0_begin_28 rfl
theorem eX0_begin_31 : wX0_begin B ad K 31 L r σ ↔ wX0_begin B ad K 32 L (.int 0 :: r) σ := xr_iconst dX0_begin_31 (by decide)
theorem eX0_begin_32 {v : Int32} : wX0_begin B ad K 32 L (.int v :: r) σ ↔ (4 < L.length ∧ x_nl L 4 ∧ wX0_begin B ad K 34 (L.set 4 (.int v)) r σ) := xr_istore dX0_begin_32
theorem eX0_begin_34 : wX0_begin B ad K 34 L r σ ↔ ∃ v, L[4]? = some (.int v) ∧ wX0_begin B ad K 36 L (.int v :: r) σ := xr_iload dX0_begin_34
theorem eX0_begin_36 : wX0_begin B ad K 36 L r σ ↔ wX0_begin B ad K 37 L (.int 4 :: r) σ := xr_iconst dX0_begin_36 (by decide)
theorem eX0_begin_37 {x y : Int32} : wX0_begin B ad K 37 L (.int y :: .int x :: r) σ ↔ (if x.toInt < y.toInt then wX0_begin B ad K 40 L r σ else wX0_begin B ad K 62 L r σ) := (xr_icmp_ge dX0_begin_37 (by decide)).trans x_ite
theorem eX0_begin_40 : wX0_begin B ad K 40 L r σ ↔ ∃ v, L[0]? = some v ∧ x_rfv v ∧ wX0_begin B ad K 41 L (v :: r) σ := xr_aload_n dX0_begin_40
theorem eX0_begin_41 {a : Nat} : wX0_begin B ad K 41 L (.ref a :: r) σ ↔ ∃ fs v, σ.1 a = some (1, fs) ∧ fs[7]? = some v ∧ wX0_begin B ad K 44 L (v :: r) σ := xr_getfield (t := 1) (j := 7) dX0_begin_41 rfl
theorem eX0_begin_44 : wX0_begin B ad K 44 L r σ ↔ ∃ v, L[4]? = some (.int v) ∧ wX0_begin B ad K 46 L (.int v :: r) σ := xr_iload dX0_begin_44
theorem eX0_begin_46 : wX0_begin B ad K 46 L r σ ↔ wX0_begin B ad K 47 L (.int 0 :: r) σ := xr_iconst dX0_begin_46 (by decide)
theorem eX0_begin_47 {a : Nat} {j x : Int32} : wX0_begin B ad K 47 L (.int x :: .int j :: .ref a :: r) σ ↔ ∃ V, σ.1 a = some (102, V) ∧ (x = 0 ∨ x = 1) ∧ (x_ix j V).isSome ∧ B ≤ a ∧ wX0_begin B ad K 48 L r (x_up σ.1 a (102, V.set j.toInt.toNat (.int x)), σ.2) := xr_bastore dX0_begin_47
theorem eX0_begin_48 : wX0_begin B ad K 48 L r σ ↔ ∃ v, L[0]? = some v ∧ x_rfv v ∧ wX0_begin B ad K 49 L (v :: r) σ := xr_aload_n dX0_begin_48
theorem eX0_begin_49 {a : Nat} : wX0_begin B ad K 49 L (.ref a :: r) σ ↔ ∃ fs v, σ.1 a = some (1, fs) ∧ fs[8]? = some v ∧ wX0_begin B ad K 52 L (v :: r) σ := xr_getfield (t := 1) (j := 8) dX0_begin_49 rfl
theorem eX0_begin_52 : wX0_begin B ad K 52 L r σ ↔ ∃ v, L[4]? = some (.int v) ∧ wX0_begin B ad K 54 L (.int v :: r) σ := xr_iload dX0_begin_52
theorem eX0_begin_54 : wX0_begin B ad K 54 L r σ ↔ wX0_begin B ad K 55 L (.int 0 :: r) σ := xr_iconst dX0_begin_54 (by decide)
theorem eX0_begin_55 {a : Nat} {j x : Int32} : wX0_begin B ad K 55 L (.int x :: .int j :: .ref a :: r) σ ↔ ∃ V, σ.1 a = some (102, V) ∧ (x = 0 ∨ x = 1) ∧ (x_ix j V).isSome ∧ B ≤ a ∧ wX0_begin B ad K 56 L r (x_up σ.1 a (102, V.set j.toInt.toNat (.int x)), σ.2) := xr_bastore dX0_begin_55
theorem eX0_begin_56 : wX0_begin B ad K 56 L r σ ↔ ∃ v, L[4]? = some (.int v) ∧ x_nl L 4 ∧ wX0_begin B ad K 59 (L.set 4 (.int (v + 1))) r σ := xr_iinc dX0_begin_56 (by decide)
theorem eX0_begin_59 : wX0_begin B ad K 59 L r σ ↔ wX0_begin B ad K 34 L r σ := xr_goto dX0_begin_59 (by decide)
theorem eX0_begin_62 : wX0_begin B ad K 62 L r σ ↔ ∃ v, L[0]? = some v ∧ x_rfv v ∧ wX0_begin B ad K 63 L (v :: r) σ := xr_aload_n dX0_begin_62
theorem eX0_begin_63 : wX0_begin B ad K 63 L r σ ↔ wX0_begin B ad K 64 L (.long 0 :: r) σ := xr_lconst dX0_begin_63 (by decide)
theorem eX0_begin_64 {x : Int64} {a : Nat} : wX0_begin B ad K 64 L (.long x :: .ref a :: r) σ ↔ ∃ fs, σ.1 a = some (1, fs) ∧ 9 < fs.length ∧ B ≤ a ∧ wX0_begin B ad K 67 L r (x_up σ.1 a (1, fs.set 9 (.long x)), σ.2) := xr_put_l (t := 1) (j := 9) dX0_begin_64 rfl (by decide)
theorem eX0_begin_67 : wX0_begin B ad K 67 L r σ ↔ ∃ v, L[0]? = some v ∧ x_rfv v ∧ wX0_begin B ad K 68 L (v :: r) σ := xr_aload_n dX0_begin_67
theorem eX0_begin_68 : wX0_begin B ad K 68 L r σ ↔ wX0_begin B ad K 71 L (.long 1073741823 :: r) σ := xr_ldc2 dX0_begin_68 rfl
theorem eX0_begin_71 {x : Int64} {a : Nat} : wX0_begin B ad K 71 L (.long x :: .ref a :: r) σ ↔ ∃ fs, σ.1 a = some (1, fs) ∧ 10 < fs.length ∧ B ≤ a ∧ wX0_begin B ad K 74 L r (x_up σ.1 a (1, fs.set 10 (.long x)), σ.2) := xr_put_l (t := 1) (j := 10) dX0_begin_71 rfl (by decide)
theorem eX0_begin_74 : wX0_begin B ad K 74 L r σ ↔ ∃ v, L[0]? = some v ∧ x_rfv v ∧ wX0_begin B ad K 75 L (v :: r) σ := xr_aload_n dX0_begin_74
theorem eX0_begin_75 : wX0_begin B ad K 75 L r σ ↔ wX0_begin B ad K 76 L (.int 0 :: r) σ := xr_iconst dX0_begin_75 (by decide)
theorem eX0_begin_76 {x : Int32} {a : Nat} : wX0_begin B ad K 76 L (.int x :: .ref a :: r) σ ↔ ∃ fs, σ.1 a = some (1, fs) ∧ 11 < fs.length ∧ B ≤ a ∧ wX0_begin B ad K 79 L r (x_up σ.1 a (1, fs.set 11 (.int x)), σ.2) := xr_put_i (t := 1) (j := 11) dX0_begin_76 rfl (by decide)
theorem eX0_begin_79 : wX0_begin B ad K 79 L r σ ↔ ∃ v, L[0]? = some v ∧ x_rfv v ∧ wX0_begin B ad K 80 L (v :: r) σ := xr_aload_n dX0_begin_79
theorem eX0_begin_80 : wX0_begin B ad K 80 L r σ ↔ wX0_begin B ad K 81 L (.int 0 :: r) σ := xr_iconst dX0_begin_80 (by decide)
theorem eX0_begin_81 {x : Int32} {a : Nat} : wX0_begin B ad K 81 L (.int x :: .ref a :: r) σ ↔ ∃ fs, σ.1 a = some (1, fs) ∧ 12 < fs.length ∧ B ≤ a ∧ wX0_begin B ad K 84 L r (x_up σ.1 a (1, fs.set 12 (.int x)), σ.2) := xr_put_i (t := 1) (j := 12) dX0_begin_81 rfl (by decide)
theorem eX0_begin_84 : wX0_begin B ad K 84 L [] σ ↔ K none σ := xr_return dX0_begin_84
end
abbrev wX0_mayBreakBefore (B : Nat) (ad : Nat → Nat) (K : xK) : Nat → List Value → List Value → xW → Prop := x_WP B (some .boolean) (cxX0_mayBreakBefore B ad) cX0_mayBreakBefore K
section
variable {B : Nat} {ad : Nat → Nat} {K : xK} {L r : List Value} {σ : xW}
theorem eX0_mayBreakBefore_0 : wX0_mayBreakBefore B ad K 0 L r σ ↔ ∃ v, L[1]? = some v ∧ x_rfv v ∧ wX0_mayBreakBefore B ad K 1 L (v :: r) σ := xr_aload_n dX0_mayBreakBefore_0
theorem eX0_mayBreakBefore_1 {a : Nat} : wX0_mayBreakBefore B ad K 1 L (.ref a :: r) σ ↔ ∃ fs v, σ.1 a = some (3, fs) ∧ fs[1]? = some v ∧ wX0_mayBreakBefore B ad K 4 L (v :: r) σ := xr_getfield (t := 3) (j := 1) dX0_mayBreakBefore_1 rfl
theorem eX0_mayBreakBefore_4 : wX0_mayBreakBefore B ad K 4 L r σ ↔ wX0_mayBreakBefore B ad K 7 L (.ref (ad 1) :: r) σ := xr_gets dX0_mayBreakBefore_4 rfl
theorem eX0_mayBreakBefore_7 {v u : Value} : wX0_mayBreakBefore B ad K 7 L (u :: v :: r) σ ↔ (x_rfv v ∧ x_rfv u ∧ (if v = u then wX0_mayBreakBefore B ad K 10 L r σ else wX0_mayBreakBefore B ad K 43 L r σ)) := (xr_acmp_ne dX0_mayBreakBefore_7 (by decide)).trans (and_congr_right fun _ => and_congr_right fun _ => x_ite)
theorem eX0_mayBreakBefore_10 : wX0_mayBreakBefore B ad K 10 L r σ ↔ ∃ v, L[0]? = some v ∧ x_rfv v ∧ wX0_mayBreakBefore B ad K 11 L (v :: r) σ := xr_aload_n dX0_mayBreakBefore_10
theorem eX0_mayBreakBefore_11 {a : Nat} : wX0_mayBreakBefore B ad K 11 L (.ref a :: r) σ ↔ ∃ fs v, σ.1 a = some (1, fs) ∧ fs[2]? = some v ∧ wX0_mayBreakBefore B ad K 14 L (v :: r) σ := xr_getfield (t := 1) (j := 2) dX0_mayBreakBefore_11 rfl
theorem eX0_mayBreakBefore_14 {x : Int32} : wX0_mayBreakBefore B ad K 14 L (.int x :: r) σ ↔ (if 0 < x.toInt then wX0_mayBreakBefore B ad K 17 L r σ else wX0_mayBreakBefore B ad K 41 L r σ) := (xr_if_le dX0_mayBreakBefore_14 (by decide)).trans x_ite
theorem eX0_mayBreakBefore_17 : wX0_mayBreakBefore B ad K 17 L r σ ↔ ∃ v, L[0]? = some v ∧ x_rfv v ∧ wX0_mayBreakBefore B ad K 18 L (v :: r) σ := xr_aload_n dX0_mayBreakBefore_17
theorem eX0_mayBreakBefore_18 {a : Nat} : wX0_mayBreakBefore B ad K 18 L (.ref a :: r) σ ↔ ∃ fs v, σ.1 a = some (1, fs) ∧ fs[0]? = some v ∧ wX0_mayBreakBefore B ad K 21 L (v :: r) σ := xr_getfield (t := 1) (j := 0) dX0_mayBreakBefore_18 rfl
theorem eX0_mayBreakBefore_21 : wX0_mayBreakBefore B ad K 21 L r σ ↔ ∃ v, L[0]? = some v ∧ x_rfv v ∧ wX0_mayBreakBefore B ad K 22 L (v :: r) σ := xr_aload_n dX0_mayBreakBefore_21
theorem eX0_mayBreakBefore_22 {a : Nat} : wX0_mayBreakBefore B ad K 22 L (.ref a :: r) σ ↔ ∃ fs v, σ.1 a = some (1, fs) ∧ fs[2]? = some v ∧ wX0_mayBreakBefore B ad K 25 L (v :: r) σ := xr_getfield (t := 1) (j := 2) dX0_mayBreakBefore_22 rfl
theorem eX0_mayBreakBefore_25 : wX0_mayBreakBefore B ad K 25 L r σ ↔ wX0_mayBreakBefore B ad K 26 L (.int 1 :: r) σ := xr_iconst dX0_mayBreakBefore_25 (by decide)
theorem eX0_mayBreakBefore_26 {x y : Int32} : wX0_mayBreakBefore B ad K 26 L (.int y :: .int x :: r) σ ↔ wX0_mayBreakBefore B ad K 27 L (.int (x - y) :: r) σ := xr_isub dX0_mayBreakBefore_26
theorem eX0_mayBreakBefore_27 {a : Nat} {x : Int32} : wX0_mayBreakBefore B ad K 27 L (.int x :: .ref a :: r) σ ↔ ∃ t V v, σ.1 a = some (t, V) ∧ (t = 103 ∨ t = 104 ∨ t = 105) ∧ x_ix x V = some v ∧ wX0_mayBreakBefore B ad K 28 L (v :: r) σ := xr_aaload dX0_mayBreakBefore_27
theorem eX0_mayBreakBefore_28 {a : Nat} : wX0_mayBreakBefore B ad K 28 L (.ref a :: r) σ ↔ ∃ fs v, σ.1 a = some (3, fs) ∧ fs[1]? = some v ∧ wX0_mayBreakBefore B ad K 31 L (v :: r) σ := xr_getfield (t := 3) (j := 1) dX0_mayBreakBefore_28 rfl
theorem eX0_mayBreakBefore_31 {a : Nat} : wX0_mayBreakBefore B ad K 31 L (.ref a :: r) σ ↔ ∃ i : Nat, i < 6 ∧ ad i = a ∧ wX0_mayBreakBefore B ad K 34 L (.int (if 1 ≤ i ∧ i ≤ 3 then 1 else 0) :: r) σ := xr_getkind dX0_mayBreakBefore_31 rfl (x_ksa (by decide))
theorem eX0_mayBreakBefore_34 {x : Int32} : wX0_mayBreakBefore B ad K 34 L (.int x :: r) σ ↔ (if x = 0 then wX0_mayBreakBefore B ad K 37 L r σ else wX0_mayBreakBefore B ad K 41 L r σ) := (xr_if_ne dX0_mayBreakBefore_34 (by decide)).trans x_ite
theorem eX0_mayBreakBefore_37 : wX0_mayBreakBefore B ad K 37 L r σ ↔ wX0_mayBreakBefore B ad K 38 L (.int 1 :: r) σ := xr_iconst dX0_mayBreakBefore_37 (by decide)
theorem eX0_mayBreakBefore_38 : wX0_mayBreakBefore B ad K 38 L r σ ↔ wX0_mayBreakBefore B ad K 42 L r σ := xr_goto dX0_mayBreakBefore_38 (by decide)
theorem eX0_mayBreakBefore_41 : wX0_mayBreakBefore B ad K 41 L r σ ↔ wX0_mayBreakBefore B ad K 42 L (.int 0 :: r) σ := xr_iconst dX0_mayBreakBefore_41 (by decide)
theorem eX0_mayBreakBefore_42 {x : Int32} : wX0_mayBreakBefore B ad K 42 L [.int x] σ ↔ ((x = 0 ∨ x = 1) ∧ K (some (.int x)) σ) := xr_zreturn dX0_mayBreakBefore_42
theorem eX0_mayBreakBefore_43 : wX0_mayBreakBefore B ad K 43 L r σ ↔ ∃ v, L[1]? = some v ∧ x_rfv v ∧ wX0_mayBreakBefore B ad K 44 L (v :: r) σ := xr_aload_n dX0_mayBreakBefore_43
theorem eX0_mayBreakBefore_44 {a : Nat} : wX0_mayBreakBefore B ad K 44 L (.ref a :: r) σ ↔ ∃ fs v, σ.1 a = some (3, fs) ∧ fs[1]? = some v ∧ wX0_mayBreakBefore B ad K 47 L (v :: r) σ := xr_getfield (t := 3) (j := 1) dX0_mayBreakBefore_44 rfl
theorem eX0_mayBreakBefore_47 : wX0_mayBreakBefore B ad K 47 L r σ ↔ wX0_mayBreakBefore B ad K 50 L (.ref (ad 2) :: r) σ := xr_gets dX0_mayBreakBefore_47 rfl
theorem eX0_mayBreakBefore_50 {v u : Value} : wX0_mayBreakBefore B ad K 50 L (u :: v :: r) σ ↔ (x_rfv v ∧ x_rfv u ∧ (if v = u then wX0_mayBreakBefore B ad K 53 L r σ else wX0_mayBreakBefore B ad K 73 L r σ)) := (xr_acmp_ne dX0_mayBreakBefore_50 (by decide)).trans (and_congr_right fun _ => and_congr_right fun _ => x_ite)
theorem eX0_mayBreakBefore_53 : wX0_mayBreakBefore B ad K 53 L r σ ↔ ∃ v, L[2]? = some v ∧ x_rfv v ∧ wX0_mayBreakBefore B ad K 54 L (v :: r) σ := xr_aload_n dX0_mayBreakBefore_53
theorem eX0_mayBreakBefore_54 {v : Value} : wX0_mayBreakBefore B ad K 54 L (v :: r) σ ↔ (x_rfv v ∧ (if v = .null then wX0_mayBreakBefore B ad K 71 L r σ else wX0_mayBreakBefore B ad K 57 L r σ)) := (xr_ifnull dX0_mayBreakBefore_54 (by decide)).trans (and_congr_right fun _ => x_ite)
theorem eX0_mayBreakBefore_57 : wX0_mayBreakBefore B ad K 57 L r σ ↔ ∃ v, L[2]? = some v ∧ x_rfv v ∧ wX0_mayBreakBefore B ad K 58 L (v :: r) σ := xr_aload_n dX0_mayBreakBefore_57
theorem eX0_mayBreakBefore_58 {a : Nat} : wX0_mayBreakBefore B ad K 58 L (.ref a :: r) σ ↔ ∃ fs v, σ.1 a = some (3, fs) ∧ fs[1]? = some v ∧ wX0_mayBreakBefore B ad K 61 L (v :: r) σ := xr_getfield (t := 3) (j := 1) dX0_mayBreakBefore_58 rfl
theorem eX0_mayBreakBefore_61 : wX0_mayBreakBefore B ad K 61 L r σ ↔ wX0_mayBreakBefore B ad K 64 L (.ref (ad 1) :: r) σ := xr_gets dX0_mayBreakBefore_61 rfl
theorem eX0_mayBreakBefore_64 {v u : Value} : wX0_mayBreakBefore B ad K 64 L (u :: v :: r) σ ↔ (x_rfv v ∧ x_rfv u ∧ (if v = u then wX0_mayBreakBefore B ad K 67 L r σ else wX0_mayBreakBefore B ad K 71 L r σ)) := (xr_acmp_ne dX0_mayBreakBefore_64 (by decide)).trans (and_congr_right fun _ => and_congr_right fun _ => x_ite)
theorem eX0_mayBreakBefore_67 : wX0_mayBreakBefore B ad K 67 L r σ ↔ wX0_mayBreakBefore B ad K 68 L (.int 1 :: r) σ := xr_iconst dX0_mayBreakBefore_67 (by decide)
theorem eX0_mayBreakBefore_68 : wX0_mayBreakBefore B ad K 68 L r σ ↔ wX0_mayBreakBefore B ad K 72 L r σ := xr_goto dX0_mayBreakBefore_68 (by decide)
theorem eX0_mayBreakBefore_71 : wX0_mayBreakBefore B ad K 71 L r σ ↔ wX0_mayBreakBefore B ad K 72 L (.int 0 :: r) σ := xr_iconst dX0_mayBreakBefore_71 (by decide)
theorem eX0_mayBreakBefore_72 {x : Int32} : wX0_mayBreakBefore B ad K 72 L [.int x] σ ↔ ((x = 0 ∨ x = 1) ∧ K (some (.int x)) σ) := xr_zreturn dX0_mayBreakBefore_72
theorem eX0_mayBreakBefore_73 : wX0_mayBreakBefore B ad K 73 L r σ ↔ ∃ v, L[1]? = some v ∧ x_rfv v ∧ wX0_mayBreakBefore B ad K 74 L (v :: r) σ := xr_aload_n dX0_mayBreakBefore_73
theorem eX0_mayBreakBefore_74 {a : Nat} : wX0_mayBreakBefore B ad K 74 L (.ref a :: r) σ ↔ ∃ fs v, σ.1 a = some (3, fs) ∧ fs[1]? = some v ∧ wX0_mayBreakBefore B ad K 77 L (v :: r) σ := xr_getfield (t := 3) (j := 1) dX0_mayBreakBefore_74 rfl
theorem eX0_mayBreakBefore_77 : wX0_mayBreakBefore B ad K 77 L r σ ↔ wX0_mayBreakBefore B ad K 80 L (.ref (ad 3) :: r) σ := xr_gets dX0_mayBreakBefore_77 rfl
theorem eX0_mayBreakBefore_80 {v u : Value} : wX0_mayBreakBefore B ad K 80 L (u :: v :: r) σ ↔ (x_rfv v ∧ x_rfv u ∧ (if v = u then wX0_mayBreakBefore B ad K 83 L r σ else wX0_mayBreakBefore B ad K 97 L r σ)) := (xr_acmp_ne dX0_mayBreakBefore_80 (by decide)).trans (and_congr_right fun _ => and_congr_right fun _ => x_ite)
theorem eX0_mayBreakBefore_83 : wX0_mayBreakBefore B ad K 83 L r σ ↔ ∃ v, L[1]? = some v ∧ x_rfv v ∧ wX0_mayBreakBefore B ad K 84 L (v :: r) σ := xr_aload_n dX0_mayBreakBefore_83
theorem eX0_mayBreakBefore_84 {a : Nat} : wX0_mayBreakBefore B ad K 84 L (.ref a :: r) σ ↔ ∃ fs v, σ.1 a = some (3, fs) ∧ fs[2]? = some v ∧ wX0_mayBreakBefore B ad K 87 L (v :: r) σ := xr_getfield (t := 3) (j := 2) dX0_mayBreakBefore_84 rfl
theorem eX0_mayBreakBefore_87 : wX0_mayBreakBefore B ad K 87 L r σ ↔ wX0_mayBreakBefore B ad K 90 L (.int 10000 :: r) σ := xr_sipush dX0_mayBreakBefore_87 (by decide)
theorem eX0_mayBreakBefore_90 {x y : Int32} : wX0_mayBreakBefore B ad K 90 L (.int y :: .int x :: r) σ ↔ (if x.toInt < y.toInt then wX0_mayBreakBefore B ad K 93 L r σ else wX0_mayBreakBefore B ad K 97 L r σ) := (xr_icmp_ge dX0_mayBreakBefore_90 (by decide)).trans x_ite
theorem eX0_mayBreakBefore_93 : wX0_mayBreakBefore B ad K 93 L r σ ↔ wX0_mayBreakBefore B ad K 94 L (.int 1 :: r) σ := xr_iconst dX0_mayBreakBefore_93 (by decide)
theorem eX0_mayBreakBefore_94 : wX0_mayBreakBefore B ad K 94 L r σ ↔ wX0_mayBreakBefore B ad K 98 L r σ := xr_goto dX0_mayBreakBefore_94 (by decide)
theorem eX0_mayBreakBefore_97 : wX0_mayBreakBefore B ad K 97 L r σ ↔ wX0_mayBreakBefore B ad K 98 L (.int 0 :: r) σ := xr_iconst dX0_mayBreakBefore_97 (by decide)
theorem eX0_mayBreakBefore_98 {x : Int32} : wX0_mayBreakBefore B ad K 98 L [.int x] σ ↔ ((x = 0 ∨ x = 1) ∧ K (some (.int x)) σ) := xr_zreturn dX0_mayBreakBefore_98
end
abbrev wX7_badnessOf (B : Nat) (ad : Nat → Nat) (K : xK) : Nat → List Value → List Value → xW → Prop := x_WP B (some .int) (cxX7_badnessOf B ad) cX7_badnessOf K
section
variable {B : Nat} {ad : Nat → Nat} {K : xK} {L r : List Value} {σ : xW}
theorem eX7_badnessOf_0 : wX7_badnessOf B ad K 0 L r σ ↔ ∃ v, L[0]? = some (.long v) ∧ wX7_badnessOf B ad K 1 L (.long v :: r) σ := xr_lload_n dX7_badnessOf_0
theorem eX7_badnessOf_1 : wX7_badnessOf B ad K 1 L r σ ↔ wX7_badnessOf B ad K 2 L (.long 0 :: r) σ := xr_lconst dX7_badnessOf_1 (by decide)
theorem eX7_badnessOf_2 {x y : Int64} : wX7_badnessOf B ad K 2 L (.long y :: .long x :: r) σ ↔ wX7_badnessOf B ad K 3 L (.int (lg_cmp x y) :: r) σ := xr_lcmp dX7_badnessOf_2
theorem eX7_badnessOf_3 {x : Int32} : wX7_badnessOf B ad K 3 L (.int x :: r) σ ↔ (if x = 0 then wX7_badnessOf B ad K 6 L r σ else wX7_badnessOf B ad K 8 L r σ) := (xr_if_ne dX7_badnessOf_3 (by decide)).trans x_ite
theorem eX7_badnessOf_6 : wX7_badnessOf B ad K 6 L r σ ↔ wX7_badnessOf B ad K 7 L (.int 0 :: r) σ := xr_iconst dX7_badnessOf_6 (by decide)
theorem eX7_badnessOf_7 {x : Int32} : wX7_badnessOf B ad K 7 L [.int x] σ ↔ K (some (.int x)) σ := xr_ireturn dX7_badnessOf_7
theorem eX7_badnessOf_8 : wX7_badnessOf B ad K 8 L r σ ↔ ∃ v, L[2]? = some (.long v) ∧ wX7_badnessOf B ad K 9 L (.long v :: r) σ := xr_lload_n dX7_badnessOf_8
theorem eX7_badnessOf_9 : wX7_badnessOf B ad K 9 L r σ ↔ wX7_badnessOf B ad K 10 L (.long 0 :: r) σ := xr_lconst dX7_badnessOf_9 (by decide)
theorem eX7_badnessOf_10 {x y : Int64} : wX7_badnessOf B ad K 10 L (.long y :: .long x :: r) σ ↔ wX7_badnessOf B ad K 11 L (.int (lg_cmp x y) :: r) σ := xr_lcmp dX7_badnessOf_10
theorem eX7_badnessOf_11 {x : Int32} : wX7_badnessOf B ad K 11 L (.int x :: r) σ ↔ (if 0 < x.toInt then wX7_badnessOf B ad K 18 L r σ else wX7_badnessOf B ad K 14 L r σ) := (xr_if_gt dX7_badnessOf_11 (by decide)).trans x_ite
theorem eX7_badnessOf_14 : wX7_badnessOf B ad K 14 L r σ ↔ wX7_badnessOf B ad K 17 L (.int 10000 :: r) σ := xr_sipush dX7_badnessOf_14 (by decide)
theorem eX7_badnessOf_17 {x : Int32} : wX7_badnessOf B ad K 17 L [.int x] σ ↔ K (some (.int x)) σ := xr_ireturn dX7_badnessOf_17
theorem eX7_badnessOf_18 : wX7_badnessOf B ad K 18 L r σ ↔ ∃ v, L[0]? = some (.long v) ∧ wX7_badnessOf B ad K 19 L (.long v :: r) σ := xr_lload_n dX7_badnessOf_18
theorem eX7_badnessOf_19 {v : Int64} : wX7_badnessOf B ad K 19 L (.long v :: r) σ ↔ (4 + 1 < L.length ∧ x_nl L 4 ∧ wX7_badnessOf B ad K 21 ((L.set 4 (.long v)).set (4 + 1) (.retAddr 0)) r σ) := xr_lstore dX7_badnessOf_19
theorem eX7_badnessOf_21 : wX7_badnessOf B ad K 21 L r σ ↔ ∃ v, L[0]? = some (.long v) ∧ wX7_badnessOf B ad K 22 L (.long v :: r) σ := xr_lload_n dX7_badnessOf_21
theorem eX7_badnessOf_22 : wX7_badnessOf B ad K 22 L r σ ↔ wX7_badnessOf B ad K 25 L (.long 7230584 :: r) σ := xr_ldc2 dX7_badnessOf_22 rfl
theorem eX7_badnessOf_25 {x y : Int64} : wX7_badnessOf B ad K 25 L (.long y :: .long x :: r) σ ↔ wX7_badnessOf B ad K 26 L (.int (lg_cmp x y) :: r) σ := xr_lcmp dX7_badnessOf_25
theorem eX7_badnessOf_26 {x : Int32} : wX7_badnessOf B ad K 26 L (.int x :: r) σ ↔ (if 0 < x.toInt then wX7_badnessOf B ad K 41 L r σ else wX7_badnessOf B ad K 29 L r σ) := (xr_if_gt dX7_badnessOf_26 (by decide)).trans x_ite
theorem eX7_badnessOf_29 : wX7_badnessOf B ad K 29 L r σ ↔ wX7_badnessOf B ad K 32 L (.long 297 :: r) σ := xr_ldc2 dX7_badnessOf_29 rfl
theorem eX7_badnessOf_32 : wX7_badnessOf B ad K 32 L r σ ↔ ∃ v, L[0]? = some (.long v) ∧ wX7_badnessOf B ad K 33 L (.long v :: r) σ := xr_lload_n dX7_badnessOf_32
theorem eX7_badnessOf_33 {x y : Int64} : wX7_badnessOf B ad K 33 L (.long y :: .long x :: r) σ ↔ wX7_badnessOf B ad K 34 L (.long (x * y) :: r) σ := xr_lmul dX7_badnessOf_33
theorem eX7_badnessOf_34 : wX7_badnessOf B ad K 34 L r σ ↔ ∃ v, L[2]? = some (.long v) ∧ wX7_badnessOf B ad K 35 L (.long v :: r) σ := xr_lload_n dX7_badnessOf_34
theorem eX7_badnessOf_35 {x y : Int64} : wX7_badnessOf B ad K 35 L (.long y :: .long x :: r) σ ↔ (¬ y = 0 ∧ wX7_badnessOf B ad K 36 L (.long (x / y) :: r) σ) := xr_ldiv dX7_badnessOf_35
theorem eX7_badnessOf_36 {v : Int64} : wX7_badnessOf B ad K 36 L (.long v :: r) σ ↔ (4 + 1 < L.length ∧ x_nl L 4 ∧ wX7_badnessOf B ad K 38 ((L.set 4 (.long v)).set (4 + 1) (.retAddr 0)) r σ) := xr_lstore dX7_badnessOf_36
theorem eX7_badnessOf_38 : wX7_badnessOf B ad K 38 L r σ ↔ wX7_badnessOf B ad K 58 L r σ := xr_goto dX7_badnessOf_38 (by decide)
theorem eX7_badnessOf_41 : wX7_badnessOf B ad K 41 L r σ ↔ ∃ v, L[2]? = some (.long v) ∧ wX7_badnessOf B ad K 42 L (.long v :: r) σ := xr_lload_n dX7_badnessOf_41
theorem eX7_badnessOf_42 : wX7_badnessOf B ad K 42 L r σ ↔ wX7_badnessOf B ad K 45 L (.long 1663497 :: r) σ := xr_ldc2 dX7_badnessOf_42 rfl
theorem eX7_badnessOf_45 {x y : Int64} : wX7_badnessOf B ad K 45 L (.long y :: .long x :: r) σ ↔ wX7_badnessOf B ad K 46 L (.int (lg_cmp x y) :: r) σ := xr_lcmp dX7_badnessOf_45
theorem eX7_badnessOf_46 {x : Int32} : wX7_badnessOf B ad K 46 L (.int x :: r) σ ↔ (if x.toInt < 0 then wX7_badnessOf B ad K 58 L r σ else wX7_badnessOf B ad K 49 L r σ) := (xr_if_lt dX7_badnessOf_46 (by decide)).trans x_ite
theorem eX7_badnessOf_49 : wX7_badnessOf B ad K 49 L r σ ↔ ∃ v, L[0]? = some (.long v) ∧ wX7_badnessOf B ad K 50 L (.long v :: r) σ := xr_lload_n dX7_badnessOf_49
theorem eX7_badnessOf_50 : wX7_badnessOf B ad K 50 L r σ ↔ ∃ v, L[2]? = some (.long v) ∧ wX7_badnessOf B ad K 51 L (.long v :: r) σ := xr_lload_n dX7_badnessOf_50
theorem eX7_badnessOf_51 : wX7_badnessOf B ad K 51 L r σ ↔ wX7_badnessOf B ad K 54 L (.long 297 :: r) σ := xr_ldc2 dX7_badnessOf_51 rfl
theorem eX7_badnessOf_54 {x y : Int64} : wX7_badnessOf B ad K 54 L (.long y :: .long x :: r) σ ↔ (¬ y = 0 ∧ wX7_badnessOf B ad K 55 L (.long (x / y) :: r) σ) := xr_ldiv dX7_badnessOf_54
theorem eX7_badnessOf_55 {x y : Int64} : wX7_badnessOf B ad K 55 L (.long y :: .long x :: r) σ ↔ (¬ y = 0 ∧ wX7_badnessOf B ad K 56 L (.long (x / y) :: r) σ) := xr_ldiv dX7_badnessOf_55
theorem eX7_badnessOf_56 {v : Int64} : wX7_badnessOf B ad K 56 L (.long v :: r) σ ↔ (4 + 1 < L.length ∧ x_nl L 4 ∧ wX7_badnessOf B ad K 58 ((L.set 4 (.long v)).set (4 + 1) (.retAddr 0)) r σ) := xr_lstore dX7_badnessOf_56
theorem eX7_badnessOf_58 : wX7_badnessOf B ad K 58 L r σ ↔ ∃ v, L[4]? = some (.long v) ∧ wX7_badnessOf B ad K 60 L (.long v :: r) σ := xr_lload dX7_badnessOf_58
theorem eX7_badnessOf_60 : wX7_badnessOf B ad K 60 L r σ ↔ wX7_badnessOf B ad K 63 L (.long 1290 :: r) σ := xr_ldc2 dX7_badnessOf_60 rfl
theorem eX7_badnessOf_63 {x y : Int64} : wX7_badnessOf B ad K 63 L (.long y :: .long x :: r) σ ↔ wX7_badnessOf B ad K 64 L (.int (lg_cmp x y) :: r) σ := xr_lcmp dX7_badnessOf_63
theorem eX7_badnessOf_64 {x : Int32} : wX7_badnessOf B ad K 64 L (.int x :: r) σ ↔ (if 0 < x.toInt then wX7_badnessOf B ad K 67 L r σ else wX7_badnessOf B ad K 73 L r σ) := (xr_if_le dX7_badnessOf_64 (by decide)).trans x_ite
theorem eX7_badnessOf_67 : wX7_badnessOf B ad K 67 L r σ ↔ wX7_badnessOf B ad K 70 L (.int 10000 :: r) σ := xr_sipush dX7_badnessOf_67 (by decide)
theorem eX7_badnessOf_70 : wX7_badnessOf B ad K 70 L r σ ↔ wX7_badnessOf B ad K 90 L r σ := xr_goto dX7_badnessOf_70 (by decide)
theorem eX7_badnessOf_73 : wX7_badnessOf B ad K 73 L r σ ↔ ∃ v, L[4]? = some (.long v) ∧ wX7_badnessOf B ad K 75 L (.long v :: r) σ := xr_lload dX7_badnessOf_73
theorem eX7_badnessOf_75 : wX7_badnessOf B ad K 75 L r σ ↔ ∃ v, L[4]? = some (.long v) ∧ wX7_badnessOf B ad K 77 L (.long v :: r) σ := xr_lload dX7_badnessOf_75
theorem eX7_badnessOf_77 {x y : Int64} : wX7_badnessOf B ad K 77 L (.long y :: .long x :: r) σ ↔ wX7_badnessOf B ad K 78 L (.long (x * y) :: r) σ := xr_lmul dX7_badnessOf_77
theorem eX7_badnessOf_78 : wX7_badnessOf B ad K 78 L r σ ↔ ∃ v, L[4]? = some (.long v) ∧ wX7_badnessOf B ad K 80 L (.long v :: r) σ := xr_lload dX7_badnessOf_78
theorem eX7_badnessOf_80 {x y : Int64} : wX7_badnessOf B ad K 80 L (.long y :: .long x :: r) σ ↔ wX7_badnessOf B ad K 81 L (.long (x * y) :: r) σ := xr_lmul dX7_badnessOf_80
theorem eX7_badnessOf_81 : wX7_badnessOf B ad K 81 L r σ ↔ wX7_badnessOf B ad K 84 L (.long 131072 :: r) σ := xr_ldc2 dX7_badnessOf_81 rfl
theorem eX7_badnessOf_84 {x y : Int64} : wX7_badnessOf B ad K 84 L (.long y :: .long x :: r) σ ↔ wX7_badnessOf B ad K 85 L (.long (x + y) :: r) σ := xr_ladd dX7_badnessOf_84
theorem eX7_badnessOf_85 : wX7_badnessOf B ad K 85 L r σ ↔ wX7_badnessOf B ad K 88 L (.long 262144 :: r) σ := xr_ldc2 dX7_badnessOf_85 rfl
theorem eX7_badnessOf_88 {x y : Int64} : wX7_badnessOf B ad K 88 L (.long y :: .long x :: r) σ ↔ (¬ y = 0 ∧ wX7_badnessOf B ad K 89 L (.long (x / y) :: r) σ) := xr_ldiv dX7_badnessOf_88
theorem eX7_badnessOf_89 {x : Int64} : wX7_badnessOf B ad K 89 L (.long x :: r) σ ↔ wX7_badnessOf B ad K 90 L (.int x.toInt32 :: r) σ := xr_l2i dX7_badnessOf_89
theorem eX7_badnessOf_90 {x : Int32} : wX7_badnessOf B ad K 90 L [.int x] σ ↔ K (some (.int x)) σ := xr_ireturn dX7_badnessOf_90
end
abbrev wX5_badnessHere (B : Nat) (ad : Nat → Nat) (K : xK) : Nat → List Value → List Value → xW → Prop := x_WP B (some .int) (cxX5_badnessHere B ad) cX5_badnessHere K
section
variable {B : Nat} {ad : Nat → Nat} {K : xK} {L r : List Value} {σ : xW}
theorem eX5_badnessHere_0 : wX5_badnessHere B ad K 0 L r σ ↔ ∃ v, L[0]? = some v ∧ x_rfv v ∧ wX5_badnessHere B ad K 1 L (v :: r) σ := xr_aload_n dX5_badnessHere_0
theorem eX5_badnessHere_1 {a : Nat} : wX5_badnessHere B ad K 1 L (.ref a :: r) σ ↔ ∃ fs v, σ.1 a = some (5, fs) ∧ fs[0]? = some v ∧ wX5_badnessHere B ad K 4 L (v :: r) σ := xr_getfield (t := 5) (j := 0) dX5_badnessHere_1 rfl
theorem eX5_badnessHere_4 : wX5_badnessHere B ad K 4 L r σ ↔ ∃ v, L[0]? = some v ∧ x_rfv v ∧ wX5_badnessHere B ad K 5 L (v :: r) σ := xr_aload_n dX5_badnessHere_4
theorem eX5_badnessHere_5 {a : Nat} : wX5_badnessHere B ad K 5 L (.ref a :: r) σ ↔ ∃ fs v, σ.1 a = some (5, fs) ∧ fs[1]? = some v ∧ wX5_badnessHere B ad K 8 L (v :: r) σ := xr_getfield (t := 5) (j := 1) dX5_badnessHere_5 rfl
theorem eX5_badnessHere_8 {x y : Int64} : wX5_badnessHere B ad K 8 L (.long y :: .long x :: r) σ ↔ wX5_badnessHere B ad K 9 L (.long (x - y) :: r) σ := xr_lsub dX5_badnessHere_8
theorem eX5_badnessHere_9 {v : Int64} : wX5_badnessHere B ad K 9 L (.long v :: r) σ ↔ (1 + 1 < L.length ∧ x_nl L 1 ∧ wX5_badnessHere B ad K 10 ((L.set 1 (.long v)).set (1 + 1) (.retAddr 0)) r σ) := xr_lstore_n dX5_badnessHere_9
theorem eX5_badnessHere_10 : wX5_badnessHere B ad K 10 L r σ ↔ ∃ v, L[1]? = some (.long v) ∧ wX5_badnessHere B ad K 11 L (.long v :: r) σ := xr_lload_n dX5_badnessHere_10
theorem eX5_badnessHere_11 : wX5_badnessHere B ad K 11 L r σ ↔ ∃ v, L[0]? = some v ∧ x_rfv v ∧ wX5_badnessHere B ad K 12 L (v :: r) σ := xr_aload_n dX5_badnessHere_11
theorem eX5_badnessHere_12 {a : Nat} : wX5_badnessHere B ad K 12 L (.ref a :: r) σ ↔ ∃ fs v, σ.1 a = some (5, fs) ∧ fs[3]? = some v ∧ wX5_badnessHere B ad K 15 L (v :: r) σ := xr_getfield (t := 5) (j := 3) dX5_badnessHere_12 rfl
theorem eX5_badnessHere_15 {x y : Int64} : wX5_badnessHere B ad K 15 L (.long y :: .long x :: r) σ ↔ wX5_badnessHere B ad K 16 L (.int (lg_cmp x y) :: r) σ := xr_lcmp dX5_badnessHere_15
theorem eX5_badnessHere_16 {x : Int32} : wX5_badnessHere B ad K 16 L (.int x :: r) σ ↔ (if 0 < x.toInt then wX5_badnessHere B ad K 19 L r σ else wX5_badnessHere B ad K 22 L r σ) := (xr_if_le dX5_badnessHere_16 (by decide)).trans x_ite
theorem eX5_badnessHere_19 : wX5_badnessHere B ad K 19 L r σ ↔ wX5_badnessHere B ad K 21 L (.int 1073741823 :: r) σ := xr_ldc dX5_badnessHere_19 rfl
theorem eX5_badnessHere_21 {x : Int32} : wX5_badnessHere B ad K 21 L [.int x] σ ↔ K (some (.int x)) σ := xr_ireturn dX5_badnessHere_21
theorem eX5_badnessHere_22 : wX5_badnessHere B ad K 22 L r σ ↔ ∃ v, L[1]? = some (.long v) ∧ wX5_badnessHere B ad K 23 L (.long v :: r) σ := xr_lload_n dX5_badnessHere_22
theorem eX5_badnessHere_23 : wX5_badnessHere B ad K 23 L r σ ↔ wX5_badnessHere B ad K 24 L (.long 0 :: r) σ := xr_lconst dX5_badnessHere_23 (by decide)
theorem eX5_badnessHere_24 {x y : Int64} : wX5_badnessHere B ad K 24 L (.long y :: .long x :: r) σ ↔ wX5_badnessHere B ad K 25 L (.int (lg_cmp x y) :: r) σ := xr_lcmp dX5_badnessHere_24
theorem eX5_badnessHere_25 {x : Int32} : wX5_badnessHere B ad K 25 L (.int x :: r) σ ↔ (if x.toInt < 0 then wX5_badnessHere B ad K 37 L r σ else wX5_badnessHere B ad K 28 L r σ) := (xr_if_lt dX5_badnessHere_25 (by decide)).trans x_ite
theorem eX5_badnessHere_28 : wX5_badnessHere B ad K 28 L r σ ↔ ∃ v, L[1]? = some (.long v) ∧ wX5_badnessHere B ad K 29 L (.long v :: r) σ := xr_lload_n dX5_badnessHere_28
theorem eX5_badnessHere_29 : wX5_badnessHere B ad K 29 L r σ ↔ ∃ v, L[0]? = some v ∧ x_rfv v ∧ wX5_badnessHere B ad K 30 L (v :: r) σ := xr_aload_n dX5_badnessHere_29
theorem eX5_badnessHere_30 {a : Nat} : wX5_badnessHere B ad K 30 L (.ref a :: r) σ ↔ ∃ fs v, σ.1 a = some (5, fs) ∧ fs[3]? = some v ∧ wX5_badnessHere B ad K 33 L (v :: r) σ := xr_getfield (t := 5) (j := 3) dX5_badnessHere_30 rfl
theorem eX5_badnessHere_33 {v0 v1 : Value} : wX5_badnessHere B ad K 33 L (v1 :: v0 :: r) σ ↔ ((r.map fun v => v.category).sum ≤ 8 ∧ x_cl (eX7_badnessOf B ad) [v0, v1] σ (fun v g => wX5_badnessHere B ad K 36 L (v.toList ++ r) g)) := xr_callS [v0, v1] r dX5_badnessHere_33 rfl
theorem eX5_badnessHere_36 {x : Int32} : wX5_badnessHere B ad K 36 L [.int x] σ ↔ K (some (.int x)) σ := xr_ireturn dX5_badnessHere_36
theorem eX5_badnessHere_37 : wX5_badnessHere B ad K 37 L r σ ↔ ∃ v, L[0]? = some v ∧ x_rfv v ∧ wX5_badnessHere B ad K 38 L (v :: r) σ := xr_aload_n dX5_badnessHere_37
theorem eX5_badnessHere_38 {a : Nat} : wX5_badnessHere B ad K 38 L (.ref a :: r) σ ↔ ∃ fs v, σ.1 a = some (5, fs) ∧ fs[4]? = some v ∧ wX5_badnessHere B ad K 41 L (v :: r) σ := xr_getfield (t := 5) (j := 4) dX5_badnessHere_38 rfl
theorem eX5_badnessHere_41 : wX5_badnessHere B ad K 41 L r σ ↔ wX5_badnessHere B ad K 42 L (.int 1 :: r) σ := xr_iconst dX5_badnessHere_41 (by decide)
theorem eX5_badnessHere_42 {a : Nat} {x : Int32} : wX5_badnessHere B ad K 42 L (.int x :: .ref a :: r) σ ↔ ∃ V v, σ.1 a = some (101, V) ∧ x_ix x V = some v ∧ wX5_badnessHere B ad K 43 L (v :: r) σ := xr_laload dX5_badnessHere_42
theorem eX5_badnessHere_43 : wX5_badnessHere B ad K 43 L r σ ↔ wX5_badnessHere B ad K 44 L (.long 0 :: r) σ := xr_lconst dX5_badnessHere_43 (by decide)
theorem eX5_badnessHere_44 {x y : Int64} : wX5_badnessHere B ad K 44 L (.long y :: .long x :: r) σ ↔ wX5_badnessHere B ad K 45 L (.int (lg_cmp x y) :: r) σ := xr_lcmp dX5_badnessHere_44
theorem eX5_badnessHere_45 {x : Int32} : wX5_badnessHere B ad K 45 L (.int x :: r) σ ↔ (if x = 0 then wX5_badnessHere B ad K 48 L r σ else wX5_badnessHere B ad K 70 L r σ) := (xr_if_ne dX5_badnessHere_45 (by decide)).trans x_ite
theorem eX5_badnessHere_48 : wX5_badnessHere B ad K 48 L r σ ↔ ∃ v, L[0]? = some v ∧ x_rfv v ∧ wX5_badnessHere B ad K 49 L (v :: r) σ := xr_aload_n dX5_badnessHere_48
theorem eX5_badnessHere_49 {a : Nat} : wX5_badnessHere B ad K 49 L (.ref a :: r) σ ↔ ∃ fs v, σ.1 a = some (5, fs) ∧ fs[4]? = some v ∧ wX5_badnessHere B ad K 52 L (v :: r) σ := xr_getfield (t := 5) (j := 4) dX5_badnessHere_49 rfl
theorem eX5_badnessHere_52 : wX5_badnessHere B ad K 52 L r σ ↔ wX5_badnessHere B ad K 53 L (.int 2 :: r) σ := xr_iconst dX5_badnessHere_52 (by decide)
theorem eX5_badnessHere_53 {a : Nat} {x : Int32} : wX5_badnessHere B ad K 53 L (.int x :: .ref a :: r) σ ↔ ∃ V v, σ.1 a = some (101, V) ∧ x_ix x V = some v ∧ wX5_badnessHere B ad K 54 L (v :: r) σ := xr_laload dX5_badnessHere_53
theorem eX5_badnessHere_54 : wX5_badnessHere B ad K 54 L r σ ↔ wX5_badnessHere B ad K 55 L (.long 0 :: r) σ := xr_lconst dX5_badnessHere_54 (by decide)
theorem eX5_badnessHere_55 {x y : Int64} : wX5_badnessHere B ad K 55 L (.long y :: .long x :: r) σ ↔ wX5_badnessHere B ad K 56 L (.int (lg_cmp x y) :: r) σ := xr_lcmp dX5_badnessHere_55
theorem eX5_badnessHere_56 {x : Int32} : wX5_badnessHere B ad K 56 L (.int x :: r) σ ↔ (if x = 0 then wX5_badnessHere B ad K 59 L r σ else wX5_badnessHere B ad K 70 L r σ) := (xr_if_ne dX5_badnessHere_56 (by decide)).trans x_ite
theorem eX5_badnessHere_59 : wX5_badnessHere B ad K 59 L r σ ↔ ∃ v, L[0]? = some v ∧ x_rfv v ∧ wX5_badnessHere B ad K 60 L (v :: r) σ := xr_aload_n dX5_badnessHere_59
theorem eX5_badnessHere_60 {a : Nat} : wX5_badnessHere B ad K 60 L (.ref a :: r) σ ↔ ∃ fs v, σ.1 a = some (5, fs) ∧ fs[4]? = some v ∧ wX5_badnessHere B ad K 63 L (v :: r) σ := xr_getfield (t := 5) (j := 4) dX5_badnessHere_60 rfl
theorem eX5_badnessHere_63 : wX5_badnessHere B ad K 63 L r σ ↔ wX5_badnessHere B ad K 64 L (.int 3 :: r) σ := xr_iconst dX5_badnessHere_63 (by decide)
theorem eX5_badnessHere_64 {a : Nat} {x : Int32} : wX5_badnessHere B ad K 64 L (.int x :: .ref a :: r) σ ↔ ∃ V v, σ.1 a = some (101, V) ∧ x_ix x V = some v ∧ wX5_badnessHere B ad K 65 L (v :: r) σ := xr_laload dX5_badnessHere_64
theorem eX5_badnessHere_65 : wX5_badnessHere B ad K 65 L r σ ↔ wX5_badnessHere B ad K 66 L (.long 0 :: r) σ := xr_lconst dX5_badnessHere_65 (by decide)
theorem eX5_badnessHere_66 {x y : Int64} : wX5_badnessHere B ad K 66 L (.long y :: .long x :: r) σ ↔ wX5_badnessHere B ad K 67 L (.int (lg_cmp x y) :: r) σ := xr_lcmp dX5_badnessHere_66
theorem eX5_badnessHere_67 {x : Int32} : wX5_badnessHere B ad K 67 L (.int x :: r) σ ↔ (if x = 0 then wX5_badnessHere B ad K 72 L r σ else wX5_badnessHere B ad K 70 L r σ) := (xr_if_eq dX5_badnessHere_67 (by decide)).trans x_ite
theorem eX5_badnessHere_70 : wX5_badnessHere B ad K 70 L r σ ↔ wX5_badnessHere B ad K 71 L (.int 0 :: r) σ := xr_iconst dX5_badnessHere_70 (by decide)
theorem eX5_badnessHere_71 {x : Int32} : wX5_badnessHere B ad K 71 L [.int x] σ ↔ K (some (.int x)) σ := xr_ireturn dX5_badnessHere_71
theorem eX5_badnessHere_72 : wX5_badnessHere B ad K 72 L r σ ↔ ∃ v, L[1]? = some (.long v) ∧ wX5_badnessHere B ad K 73 L (.long v :: r) σ := xr_lload_n dX5_badnessHere_72
theorem eX5_badnessHere_73 {x : Int64} : wX5_badnessHere B ad K 73 L (.long x :: r) σ ↔ wX5_badnessHere B ad K 74 L (.long (-x) :: r) σ := xr_lneg dX5_badnessHere_73
theorem eX5_badnessHere_74 : wX5_badnessHere B ad K 74 L r σ ↔ ∃ v, L[0]? = some v ∧ x_rfv v ∧ wX5_badnessHere B ad K 75 L (v :: r) σ := xr_aload_n dX5_badnessHere_74
theorem eX5_badnessHere_75 {a : Nat} : wX5_badnessHere B ad K 75 L (.ref a :: r) σ ↔ ∃ fs v, σ.1 a = some (5, fs) ∧ fs[4]? = some v ∧ wX5_badnessHere B ad K 78 L (v :: r) σ := xr_getfield (t := 5) (j := 4) dX5_badnessHere_75 rfl
theorem eX5_badnessHere_78 : wX5_badnessHere B ad K 78 L r σ ↔ wX5_badnessHere B ad K 79 L (.int 0 :: r) σ := xr_iconst dX5_badnessHere_78 (by decide)
theorem eX5_badnessHere_79 {a : Nat} {x : Int32} : wX5_badnessHere B ad K 79 L (.int x :: .ref a :: r) σ ↔ ∃ V v, σ.1 a = some (101, V) ∧ x_ix x V = some v ∧ wX5_badnessHere B ad K 80 L (v :: r) σ := xr_laload dX5_badnessHere_79
theorem eX5_badnessHere_80 {v0 v1 : Value} : wX5_badnessHere B ad K 80 L (v1 :: v0 :: r) σ ↔ ((r.map fun v => v.category).sum ≤ 8 ∧ x_cl (eX7_badnessOf B ad) [v0, v1] σ (fun v g => wX5_badnessHere B ad K 83 L (v.toList ++ r) g)) := xr_callS [v0, v1] r dX5_badnessHere_80 rfl
theorem eX5_badnessHere_83 {x : Int32} : wX5_badnessHere B ad K 83 L [.int x] σ ↔ K (some (.int x)) σ := xr_ireturn dX5_badnessHere_83
end
abbrev wX0_costAt (B : Nat) (ad : Nat → Nat) (K : xK) : Nat → List Value → List Value → xW → Prop := x_WP B (some .long) (cxX0_costAt B ad) cX0_costAt K
section
variable {B : Nat} {ad : Nat → Nat} {K : xK} {L r : List Value} {σ : xW}
theorem eX0_costAt_0 : wX0_costAt B ad K 0 L r σ ↔ ∃ v, L[0]? = some v ∧ x_rfv v ∧ wX0_costAt B ad K 1 L (v :: r) σ := xr_aload_n dX0_costAt_0
theorem eX0_costAt_1 {a : Nat} : wX0_costAt B ad K 1 L (.ref a :: r) σ ↔ ∃ fs v, σ.1 a = some (1, fs) ∧ fs[6]? = some v ∧ wX0_costAt B ad K 4 L (v :: r) σ := xr_getfield (t := 1) (j := 6) dX0_costAt_1 rfl
theorem eX0_costAt_4 {v0 : Value} : wX0_costAt B ad K 4 L (v0 :: r) σ ↔ ((r.map fun v => v.category).sum ≤ 8 ∧ x_cl (x_v 5 (eX5_badnessHere B ad)) [v0] σ (fun v g => wX0_costAt B ad K 7 L (v.toList ++ r) g)) := xr_callV [v0] r dX0_costAt_4 rfl
theorem eX0_costAt_7 {v : Int32} : wX0_costAt B ad K 7 L (.int v :: r) σ ↔ (2 < L.length ∧ x_nl L 2 ∧ wX0_costAt B ad K 8 (L.set 2 (.int v)) r σ) := xr_istore_n dX0_costAt_7
theorem eX0_costAt_8 : wX0_costAt B ad K 8 L r σ ↔ ∃ v, L[2]? = some (.int v) ∧ wX0_costAt B ad K 9 L (.int v :: r) σ := xr_iload_n dX0_costAt_8
theorem eX0_costAt_9 : wX0_costAt B ad K 9 L r σ ↔ wX0_costAt B ad K 11 L (.int 1073741823 :: r) σ := xr_ldc dX0_costAt_9 rfl
theorem eX0_costAt_11 {x y : Int32} : wX0_costAt B ad K 11 L (.int y :: .int x :: r) σ ↔ (if x = y then wX0_costAt B ad K 25 L r σ else wX0_costAt B ad K 14 L r σ) := (xr_icmp_eq dX0_costAt_11 (by decide)).trans x_ite
theorem eX0_costAt_14 : wX0_costAt B ad K 14 L r σ ↔ ∃ v, L[0]? = some v ∧ x_rfv v ∧ wX0_costAt B ad K 15 L (v :: r) σ := xr_aload_n dX0_costAt_14
theorem eX0_costAt_15 {a : Nat} : wX0_costAt B ad K 15 L (.ref a :: r) σ ↔ ∃ fs v, σ.1 a = some (1, fs) ∧ fs[9]? = some v ∧ wX0_costAt B ad K 18 L (v :: r) σ := xr_getfield (t := 1) (j := 9) dX0_costAt_15 rfl
theorem eX0_costAt_18 : wX0_costAt B ad K 18 L r σ ↔ wX0_costAt B ad K 21 L (.long 10000 :: r) σ := xr_ldc2 dX0_costAt_18 rfl
theorem eX0_costAt_21 {x y : Int64} : wX0_costAt B ad K 21 L (.long y :: .long x :: r) σ ↔ wX0_costAt B ad K 22 L (.int (lg_cmp x y) :: r) σ := xr_lcmp dX0_costAt_21
theorem eX0_costAt_22 {x : Int32} : wX0_costAt B ad K 22 L (.int x :: r) σ ↔ (if x.toInt < 0 then wX0_costAt B ad K 29 L r σ else wX0_costAt B ad K 25 L r σ) := (xr_if_lt dX0_costAt_22 (by decide)).trans x_ite
theorem eX0_costAt_25 : wX0_costAt B ad K 25 L r σ ↔ wX0_costAt B ad K 28 L (.long 1073741823 :: r) σ := xr_ldc2 dX0_costAt_25 rfl
theorem eX0_costAt_28 {x : Int64} : wX0_costAt B ad K 28 L [.long x] σ ↔ K (some (.long x)) σ := xr_lreturn dX0_costAt_28
theorem eX0_costAt_29 : wX0_costAt B ad K 29 L r σ ↔ ∃ v, L[1]? = some (.int v) ∧ wX0_costAt B ad K 30 L (.int v :: r) σ := xr_iload_n dX0_costAt_29
theorem eX0_costAt_30 : wX0_costAt B ad K 30 L r σ ↔ wX0_costAt B ad K 33 L (.int (-10000) :: r) σ := xr_sipush dX0_costAt_30 (by decide)
theorem eX0_costAt_33 {x y : Int32} : wX0_costAt B ad K 33 L (.int y :: .int x :: r) σ ↔ (if x = y then wX0_costAt B ad K 36 L r σ else wX0_costAt B ad K 39 L r σ) := (xr_icmp_ne dX0_costAt_33 (by decide)).trans x_ite
theorem eX0_costAt_36 : wX0_costAt B ad K 36 L r σ ↔ ∃ v, L[1]? = some (.int v) ∧ wX0_costAt B ad K 37 L (.int v :: r) σ := xr_iload_n dX0_costAt_36
theorem eX0_costAt_37 {x : Int32} : wX0_costAt B ad K 37 L (.int x :: r) σ ↔ wX0_costAt B ad K 38 L (.long x.toInt64 :: r) σ := xr_i2l dX0_costAt_37
theorem eX0_costAt_38 {x : Int64} : wX0_costAt B ad K 38 L [.long x] σ ↔ K (some (.long x)) σ := xr_lreturn dX0_costAt_38
theorem eX0_costAt_39 : wX0_costAt B ad K 39 L r σ ↔ ∃ v, L[2]? = some (.int v) ∧ wX0_costAt B ad K 40 L (.int v :: r) σ := xr_iload_n dX0_costAt_39
theorem eX0_costAt_40 : wX0_costAt B ad K 40 L r σ ↔ wX0_costAt B ad K 43 L (.int 10000 :: r) σ := xr_sipush dX0_costAt_40 (by decide)
theorem eX0_costAt_43 {x y : Int32} : wX0_costAt B ad K 43 L (.int y :: .int x :: r) σ ↔ (if x.toInt < y.toInt then wX0_costAt B ad K 46 L r σ else wX0_costAt B ad K 58 L r σ) := (xr_icmp_ge dX0_costAt_43 (by decide)).trans x_ite
theorem eX0_costAt_46 : wX0_costAt B ad K 46 L r σ ↔ ∃ v, L[2]? = some (.int v) ∧ wX0_costAt B ad K 47 L (.int v :: r) σ := xr_iload_n dX0_costAt_46
theorem eX0_costAt_47 : wX0_costAt B ad K 47 L r σ ↔ ∃ v, L[1]? = some (.int v) ∧ wX0_costAt B ad K 48 L (.int v :: r) σ := xr_iload_n dX0_costAt_47
theorem eX0_costAt_48 {x y : Int32} : wX0_costAt B ad K 48 L (.int y :: .int x :: r) σ ↔ wX0_costAt B ad K 49 L (.int (x + y) :: r) σ := xr_iadd dX0_costAt_48
theorem eX0_costAt_49 {x : Int32} : wX0_costAt B ad K 49 L (.int x :: r) σ ↔ wX0_costAt B ad K 50 L (.long x.toInt64 :: r) σ := xr_i2l dX0_costAt_49
theorem eX0_costAt_50 : wX0_costAt B ad K 50 L r σ ↔ ∃ v, L[0]? = some v ∧ x_rfv v ∧ wX0_costAt B ad K 51 L (v :: r) σ := xr_aload_n dX0_costAt_50
theorem eX0_costAt_51 {a : Nat} : wX0_costAt B ad K 51 L (.ref a :: r) σ ↔ ∃ fs v, σ.1 a = some (1, fs) ∧ fs[9]? = some v ∧ wX0_costAt B ad K 54 L (v :: r) σ := xr_getfield (t := 1) (j := 9) dX0_costAt_51 rfl
theorem eX0_costAt_54 {x y : Int64} : wX0_costAt B ad K 54 L (.long y :: .long x :: r) σ ↔ wX0_costAt B ad K 55 L (.long (x + y) :: r) σ := xr_ladd dX0_costAt_54
theorem eX0_costAt_55 : wX0_costAt B ad K 55 L r σ ↔ wX0_costAt B ad K 61 L r σ := xr_goto dX0_costAt_55 (by decide)
theorem eX0_costAt_58 : wX0_costAt B ad K 58 L r σ ↔ wX0_costAt B ad K 61 L (.long 100000 :: r) σ := xr_ldc2 dX0_costAt_58 rfl
theorem eX0_costAt_61 {x : Int64} : wX0_costAt B ad K 61 L [.long x] σ ↔ K (some (.long x)) σ := xr_lreturn dX0_costAt_61
end
abbrev wX5_copyFrom (B : Nat) (ad : Nat → Nat) (K : xK) : Nat → List Value → List Value → xW → Prop := x_WP B none (cxX5_copyFrom B ad) cX5_copyFrom K
section
variable {B : Nat} {ad : Nat → Nat} {K : xK} {L r : List Value} {σ : xW}
theorem eX5_copyFrom_0 : wX5_copyFrom B ad K 0 L r σ ↔ ∃ v, L[0]? = some v ∧ x_rfv v ∧ wX5_copyFrom B ad K 1 L (v :: r) σ := xr_aload_n dX5_copyFrom_0
theorem eX5_copyFrom_1 : wX5_copyFrom B ad K 1 L r σ ↔ ∃ v, L[1]? = some v ∧ x_rfv v ∧ wX5_copyFrom B ad K 2 L (v :: r) σ := xr_aload_n dX5_copyFrom_1
theorem eX5_copyFrom_2 {a : Nat} : wX5_copyFrom B ad K 2 L (.ref a :: r) σ ↔ ∃ fs v, σ.1 a = some (5, fs) ∧ fs[0]? = some v ∧ wX5_copyFrom B ad K 5 L (v :: r) σ := xr_getfield (t := 5) (j := 0) dX5_copyFrom_2 rfl
theorem eX5_copyFrom_5 {x : Int64} {a : Nat} : wX5_copyFrom B ad K 5 L (.long x :: .ref a :: r) σ ↔ ∃ fs, σ.1 a = some (5, fs) ∧ 0 < fs.length ∧ B ≤ a ∧ wX5_copyFrom B ad K 8 L r (x_up σ.1 a (5, fs.set 0 (.long x)), σ.2) := xr_put_l (t := 5) (j := 0) dX5_copyFrom_5 rfl (by decide)
theorem eX5_copyFrom_8 : wX5_copyFrom B ad K 8 L r σ ↔ ∃ v, L[0]? = some v ∧ x_rfv v ∧ wX5_copyFrom B ad K 9 L (v :: r) σ := xr_aload_n dX5_copyFrom_8
theorem eX5_copyFrom_9 : wX5_copyFrom B ad K 9 L r σ ↔ ∃ v, L[1]? = some v ∧ x_rfv v ∧ wX5_copyFrom B ad K 10 L (v :: r) σ := xr_aload_n dX5_copyFrom_9
theorem eX5_copyFrom_10 {a : Nat} : wX5_copyFrom B ad K 10 L (.ref a :: r) σ ↔ ∃ fs v, σ.1 a = some (5, fs) ∧ fs[1]? = some v ∧ wX5_copyFrom B ad K 13 L (v :: r) σ := xr_getfield (t := 5) (j := 1) dX5_copyFrom_10 rfl
theorem eX5_copyFrom_13 {x : Int64} {a : Nat} : wX5_copyFrom B ad K 13 L (.long x :: .ref a :: r) σ ↔ ∃ fs, σ.1 a = some (5, fs) ∧ 1 < fs.length ∧ B ≤ a ∧ wX5_copyFrom B ad K 16 L r (x_up σ.1 a (5, fs.set 1 (.long x)), σ.2) := xr_put_l (t := 5) (j := 1) dX5_copyFrom_13 rfl (by decide)
theorem eX5_copyFrom_16 : wX5_copyFrom B ad K 16 L r σ ↔ ∃ v, L[0]? = some v ∧ x_rfv v ∧ wX5_copyFrom B ad K 17 L (v :: r) σ := xr_aload_n dX5_copyFrom_16
theorem eX5_copyFrom_17 : wX5_copyFrom B ad K 17 L r σ ↔ ∃ v, L[1]? = some v ∧ x_rfv v ∧ wX5_copyFrom B ad K 18 L (v :: r) σ := xr_aload_n dX5_copyFrom_17
theorem eX5_copyFrom_18 {a : Nat} : wX5_copyFrom B ad K 18 L (.ref a :: r) σ ↔ ∃ fs v, σ.1 a = some (5, fs) ∧ fs[2]? = some v ∧ wX5_copyFrom B ad K 21 L (v :: r) σ := xr_getfield (t := 5) (j := 2) dX5_copyFrom_18 rfl
theorem eX5_copyFrom_21 {x : Int64} {a : Nat} : wX5_copyFrom B ad K 21 L (.long x :: .ref a :: r) σ ↔ ∃ fs, σ.1 a = some (5, fs) ∧ 2 < fs.length ∧ B ≤ a ∧ wX5_copyFrom B ad K 24 L r (x_up σ.1 a (5, fs.set 2 (.long x)), σ.2) := xr_put_l (t := 5) (j := 2) dX5_copyFrom_21 rfl (by decide)
theorem eX5_copyFrom_24 : wX5_copyFrom B ad K 24 L r σ ↔ ∃ v, L[0]? = some v ∧ x_rfv v ∧ wX5_copyFrom B ad K 25 L (v :: r) σ := xr_aload_n dX5_copyFrom_24
theorem eX5_copyFrom_25 : wX5_copyFrom B ad K 25 L r σ ↔ ∃ v, L[1]? = some v ∧ x_rfv v ∧ wX5_copyFrom B ad K 26 L (v :: r) σ := xr_aload_n dX5_copyFrom_25
theorem eX5_copyFrom_26 {a : Nat} : wX5_copyFrom B ad K 26 L (.ref a :: r) σ ↔ ∃ fs v, σ.1 a = some (5, fs) ∧ fs[3]? = some v ∧ wX5_copyFrom B ad K 29 L (v :: r) σ := xr_getfield (t := 5) (j := 3) dX5_copyFrom_26 rfl
theorem eX5_copyFrom_29 {x : Int64} {a : Nat} : wX5_copyFrom B ad K 29 L (.long x :: .ref a :: r) σ ↔ ∃ fs, σ.1 a = some (5, fs) ∧ 3 < fs.length ∧ B ≤ a ∧ wX5_copyFrom B ad K 32 L r (x_up σ.1 a (5, fs.set 3 (.long x)), σ.2) := xr_put_l (t := 5) (j := 3) dX5_copyFrom_29 rfl (by decide)
theorem eX5_copyFrom_32 : wX5_copyFrom B ad K 32 L r σ ↔ wX5_copyFrom B ad K 33 L (.int 0 :: r) σ := xr_iconst dX5_copyFrom_32 (by decide)
theorem eX5_copyFrom_33 {v : Int32} : wX5_copyFrom B ad K 33 L (.int v :: r) σ ↔ (2 < L.length ∧ x_nl L 2 ∧ wX5_copyFrom B ad K 34 (L.set 2 (.int v)) r σ) := xr_istore_n dX5_copyFrom_33
theorem eX5_copyFrom_34 : wX5_copyFrom B ad K 34 L r σ ↔ ∃ v, L[2]? = some (.int v) ∧ wX5_copyFrom B ad K 35 L (.int v :: r) σ := xr_iload_n dX5_copyFrom_34
theorem eX5_copyFrom_35 : wX5_copyFrom B ad K 35 L r σ ↔ wX5_copyFrom B ad K 36 L (.int 4 :: r) σ := xr_iconst dX5_copyFrom_35 (by decide)
theorem eX5_copyFrom_36 {x y : Int32} : wX5_copyFrom B ad K 36 L (.int y :: .int x :: r) σ ↔ (if x.toInt < y.toInt then wX5_copyFrom B ad K 39 L r σ else wX5_copyFrom B ad K 57 L r σ) := (xr_icmp_ge dX5_copyFrom_36 (by decide)).trans x_ite
theorem eX5_copyFrom_39 : wX5_copyFrom B ad K 39 L r σ ↔ ∃ v, L[0]? = some v ∧ x_rfv v ∧ wX5_copyFrom B ad K 40 L (v :: r) σ := xr_aload_n dX5_copyFrom_39
theorem eX5_copyFrom_40 {a : Nat} : wX5_copyFrom B ad K 40 L (.ref a :: r) σ ↔ ∃ fs v, σ.1 a = some (5, fs) ∧ fs[4]? = some v ∧ wX5_copyFrom B ad K 43 L (v :: r) σ := xr_getfield (t := 5) (j := 4) dX5_copyFrom_40 rfl
theorem eX5_copyFrom_43 : wX5_copyFrom B ad K 43 L r σ ↔ ∃ v, L[2]? = some (.int v) ∧ wX5_copyFrom B ad K 44 L (.int v :: r) σ := xr_iload_n dX5_copyFrom_43
theorem eX5_copyFrom_44 : wX5_copyFrom B ad K 44 L r σ ↔ ∃ v, L[1]? = some v ∧ x_rfv v ∧ wX5_copyFrom B ad K 45 L (v :: r) σ := xr_aload_n dX5_copyFrom_44
theorem eX5_copyFrom_45 {a : Nat} : wX5_copyFrom B ad K 45 L (.ref a :: r) σ ↔ ∃ fs v, σ.1 a = some (5, fs) ∧ fs[4]? = some v ∧ wX5_copyFrom B ad K 48 L (v :: r) σ := xr_getfield (t := 5) (j := 4) dX5_copyFrom_45 rfl
theorem eX5_copyFrom_48 : wX5_copyFrom B ad K 48 L r σ ↔ ∃ v, L[2]? = some (.int v) ∧ wX5_copyFrom B ad K 49 L (.int v :: r) σ := xr_iload_n dX5_copyFrom_48
theorem eX5_copyFrom_49 {a : Nat} {x : Int32} : wX5_copyFrom B ad K 49 L (.int x :: .ref a :: r) σ ↔ ∃ V v, σ.1 a = some (101, V) ∧ x_ix x V = some v ∧ wX5_copyFrom B ad K 50 L (v :: r) σ := xr_laload dX5_copyFrom_49
theorem eX5_copyFrom_50 {a : Nat} {j : Int32} {x : Int64} : wX5_copyFrom B ad K 50 L (.long x :: .int j :: .ref a :: r) σ ↔ ∃ V, σ.1 a = some (101, V) ∧ (x_ix j V).isSome ∧ B ≤ a ∧ wX5_copyFrom B ad K 51 L r (x_up σ.1 a (101, V.set j.toInt.toNat (.long x)), σ.2) := xr_lastore dX5_copyFrom_50
theorem eX5_copyFrom_51 : wX5_copyFrom B ad K 51 L r σ ↔ ∃ v, L[2]? = some (.int v) ∧ x_nl L 2 ∧ wX5_copyFrom B ad K 54 (L.set 2 (.int (v + 1))) r σ := xr_iinc dX5_copyFrom_51 (by decide)
theorem eX5_copyFrom_54 : wX5_copyFrom B ad K 54 L r σ ↔ wX5_copyFrom B ad K 34 L r σ := xr_goto dX5_copyFrom_54 (by decide)
theorem eX5_copyFrom_57 : wX5_copyFrom B ad K 57 L r σ ↔ wX5_copyFrom B ad K 58 L (.int 0 :: r) σ := xr_iconst dX5_copyFrom_57 (by decide)
theorem eX5_copyFrom_58 {v : Int32} : wX5_copyFrom B ad K 58 L (.int v :: r) σ ↔ (2 < L.length ∧ x_nl L 2 ∧ wX5_copyFrom B ad K 59 (L.set 2 (.int v)) r σ) := xr_istore_n dX5_copyFrom_58
theorem eX5_copyFrom_59 : wX5_copyFrom B ad K 59 L r σ ↔ ∃ v, L[2]? = some (.int v) ∧ wX5_copyFrom B ad K 60 L (.int v :: r) σ := xr_iload_n dX5_copyFrom_59
theorem eX5_copyFrom_60 : wX5_copyFrom B ad K 60 L r σ ↔ wX5_copyFrom B ad K 61 L (.int 4 :: r) σ := xr_iconst dX5_copyFrom_60 (by decide)
theorem eX5_copyFrom_61 {x y : Int32} : wX5_copyFrom B ad K 61 L (.int y :: .int x :: r) σ ↔ (if x.toInt < y.toInt then wX5_copyFrom B ad K 64 L r σ else wX5_copyFrom B ad K 82 L r σ) := (xr_icmp_ge dX5_copyFrom_61 (by decide)).trans x_ite
theorem eX5_copyFrom_64 : wX5_copyFrom B ad K 64 L r σ ↔ ∃ v, L[0]? = some v ∧ x_rfv v ∧ wX5_copyFrom B ad K 65 L (v :: r) σ := xr_aload_n dX5_copyFrom_64
theorem eX5_copyFrom_65 {a : Nat} : wX5_copyFrom B ad K 65 L (.ref a :: r) σ ↔ ∃ fs v, σ.1 a = some (5, fs) ∧ fs[5]? = some v ∧ wX5_copyFrom B ad K 68 L (v :: r) σ := xr_getfield (t := 5) (j := 5) dX5_copyFrom_65 rfl
theorem eX5_copyFrom_68 : wX5_copyFrom B ad K 68 L r σ ↔ ∃ v, L[2]? = some (.int v) ∧ wX5_copyFrom B ad K 69 L (.int v :: r) σ := xr_iload_n dX5_copyFrom_68
theorem eX5_copyFrom_69 : wX5_copyFrom B ad K 69 L r σ ↔ ∃ v, L[1]? = some v ∧ x_rfv v ∧ wX5_copyFrom B ad K 70 L (v :: r) σ := xr_aload_n dX5_copyFrom_69
theorem eX5_copyFrom_70 {a : Nat} : wX5_copyFrom B ad K 70 L (.ref a :: r) σ ↔ ∃ fs v, σ.1 a = some (5, fs) ∧ fs[5]? = some v ∧ wX5_copyFrom B ad K 73 L (v :: r) σ := xr_getfield (t := 5) (j := 5) dX5_copyFrom_70 rfl
theorem eX5_copyFrom_73 : wX5_copyFrom B ad K 73 L r σ ↔ ∃ v, L[2]? = some (.int v) ∧ wX5_copyFrom B ad K 74 L (.int v :: r) σ := xr_iload_n dX5_copyFrom_73
theorem eX5_copyFrom_74 {a : Nat} {x : Int32} : wX5_copyFrom B ad K 74 L (.int x :: .ref a :: r) σ ↔ ∃ V v, σ.1 a = some (101, V) ∧ x_ix x V = some v ∧ wX5_copyFrom B ad K 75 L (v :: r) σ := xr_laload dX5_copyFrom_74
theorem eX5_copyFrom_75 {a : Nat} {j : Int32} {x : Int64} : wX5_copyFrom B ad K 75 L (.long x :: .int j :: .ref a :: r) σ ↔ ∃ V, σ.1 a = some (101, V) ∧ (x_ix j V).isSome ∧ B ≤ a ∧ wX5_copyFrom B ad K 76 L r (x_up σ.1 a (101, V.set j.toInt.toNat (.long x)), σ.2) := xr_lastore dX5_copyFrom_75
theorem eX5_copyFrom_76 : wX5_copyFrom B ad K 76 L r σ ↔ ∃ v, L[2]? = some (.int v) ∧ x_nl L 2 ∧ wX5_copyFrom B ad K 79 (L.set 2 (.int (v + 1))) r σ := xr_iinc dX5_copyFrom_76 (by decide)
theorem eX5_copyFrom_79 : wX5_copyFrom B ad K 79 L r σ ↔ wX5_copyFrom B ad K 59 L r σ := xr_goto dX5_copyFrom_79 (by decide)
theorem eX5_copyFrom_82 : wX5_copyFrom B ad K 82 L [] σ ↔ K none σ := xr_return dX5_copyFrom_82
end
abbrev wX0_endsAt (B : Nat) (ad : Nat → Nat) (K : xK) : Nat → List Value → List Value → xW → Prop := x_WP B (some .boolean) (cxX0_endsAt B ad) cX0_endsAt K
section
variable {B : Nat} {ad : Nat → Nat} {K : xK} {L r : List Value} {σ : xW}
theorem eX0_endsAt_0 : wX0_endsAt B ad K 0 L r σ ↔ ∃ v, L[0]? = some v ∧ x_rfv v ∧ wX0_endsAt B ad K 1 L (v :: r) σ := xr_aload_n dX0_endsAt_0
theorem eX0_endsAt_1 : wX0_endsAt B ad K 1 L r σ ↔ ∃ v, L[1]? = some (.int v) ∧ wX0_endsAt B ad K 2 L (.int v :: r) σ := xr_iload_n dX0_endsAt_1
theorem eX0_endsAt_2 {v0 v1 : Value} : wX0_endsAt B ad K 2 L (v1 :: v0 :: r) σ ↔ ((r.map fun v => v.category).sum ≤ 8 ∧ x_cl (x_v 1 (eX0_costAt B ad)) [v0, v1] σ (fun v g => wX0_endsAt B ad K 5 L (v.toList ++ r) g)) := xr_callV [v0, v1] r dX0_endsAt_2 rfl
theorem eX0_endsAt_5 {v : Int64} : wX0_endsAt B ad K 5 L (.long v :: r) σ ↔ (2 + 1 < L.length ∧ x_nl L 2 ∧ wX0_endsAt B ad K 6 ((L.set 2 (.long v)).set (2 + 1) (.retAddr 0)) r σ) := xr_lstore_n dX0_endsAt_5
theorem eX0_endsAt_6 : wX0_endsAt B ad K 6 L r σ ↔ ∃ v, L[2]? = some (.long v) ∧ wX0_endsAt B ad K 7 L (.long v :: r) σ := xr_lload_n dX0_endsAt_6
theorem eX0_endsAt_7 : wX0_endsAt B ad K 7 L r σ ↔ ∃ v, L[0]? = some v ∧ x_rfv v ∧ wX0_endsAt B ad K 8 L (v :: r) σ := xr_aload_n dX0_endsAt_7
theorem eX0_endsAt_8 {a : Nat} : wX0_endsAt B ad K 8 L (.ref a :: r) σ ↔ ∃ fs v, σ.1 a = some (1, fs) ∧ fs[10]? = some v ∧ wX0_endsAt B ad K 11 L (v :: r) σ := xr_getfield (t := 1) (j := 10) dX0_endsAt_8 rfl
theorem eX0_endsAt_11 {x y : Int64} : wX0_endsAt B ad K 11 L (.long y :: .long x :: r) σ ↔ wX0_endsAt B ad K 12 L (.int (lg_cmp x y) :: r) σ := xr_lcmp dX0_endsAt_11
theorem eX0_endsAt_12 {x : Int32} : wX0_endsAt B ad K 12 L (.int x :: r) σ ↔ (if 0 < x.toInt then wX0_endsAt B ad K 44 L r σ else wX0_endsAt B ad K 15 L r σ) := (xr_if_gt dX0_endsAt_12 (by decide)).trans x_ite
theorem eX0_endsAt_15 : wX0_endsAt B ad K 15 L r σ ↔ ∃ v, L[0]? = some v ∧ x_rfv v ∧ wX0_endsAt B ad K 16 L (v :: r) σ := xr_aload_n dX0_endsAt_15
theorem eX0_endsAt_16 : wX0_endsAt B ad K 16 L r σ ↔ ∃ v, L[2]? = some (.long v) ∧ wX0_endsAt B ad K 17 L (.long v :: r) σ := xr_lload_n dX0_endsAt_16
theorem eX0_endsAt_17 {x : Int64} {a : Nat} : wX0_endsAt B ad K 17 L (.long x :: .ref a :: r) σ ↔ ∃ fs, σ.1 a = some (1, fs) ∧ 10 < fs.length ∧ B ≤ a ∧ wX0_endsAt B ad K 20 L r (x_up σ.1 a (1, fs.set 10 (.long x)), σ.2) := xr_put_l (t := 1) (j := 10) dX0_endsAt_17 rfl (by decide)
theorem eX0_endsAt_20 : wX0_endsAt B ad K 20 L r σ ↔ ∃ v, L[0]? = some v ∧ x_rfv v ∧ wX0_endsAt B ad K 21 L (v :: r) σ := xr_aload_n dX0_endsAt_20
theorem eX0_endsAt_21 : wX0_endsAt B ad K 21 L r σ ↔ ∃ v, L[0]? = some v ∧ x_rfv v ∧ wX0_endsAt B ad K 22 L (v :: r) σ := xr_aload_n dX0_endsAt_21
theorem eX0_endsAt_22 {a : Nat} : wX0_endsAt B ad K 22 L (.ref a :: r) σ ↔ ∃ fs v, σ.1 a = some (1, fs) ∧ fs[2]? = some v ∧ wX0_endsAt B ad K 25 L (v :: r) σ := xr_getfield (t := 1) (j := 2) dX0_endsAt_22 rfl
theorem eX0_endsAt_25 {x : Int32} {a : Nat} : wX0_endsAt B ad K 25 L (.int x :: .ref a :: r) σ ↔ ∃ fs, σ.1 a = some (1, fs) ∧ 11 < fs.length ∧ B ≤ a ∧ wX0_endsAt B ad K 28 L r (x_up σ.1 a (1, fs.set 11 (.int x)), σ.2) := xr_put_i (t := 1) (j := 11) dX0_endsAt_25 rfl (by decide)
theorem eX0_endsAt_28 : wX0_endsAt B ad K 28 L r σ ↔ ∃ v, L[0]? = some v ∧ x_rfv v ∧ wX0_endsAt B ad K 29 L (v :: r) σ := xr_aload_n dX0_endsAt_28
theorem eX0_endsAt_29 : wX0_endsAt B ad K 29 L r σ ↔ ∃ v, L[1]? = some (.int v) ∧ wX0_endsAt B ad K 30 L (.int v :: r) σ := xr_iload_n dX0_endsAt_29
theorem eX0_endsAt_30 {x : Int32} {a : Nat} : wX0_endsAt B ad K 30 L (.int x :: .ref a :: r) σ ↔ ∃ fs, σ.1 a = some (1, fs) ∧ 12 < fs.length ∧ B ≤ a ∧ wX0_endsAt B ad K 33 L r (x_up σ.1 a (1, fs.set 12 (.int x)), σ.2) := xr_put_i (t := 1) (j := 12) dX0_endsAt_30 rfl (by decide)
theorem eX0_endsAt_33 : wX0_endsAt B ad K 33 L r σ ↔ ∃ v, L[0]? = some v ∧ x_rfv v ∧ wX0_endsAt B ad K 34 L (v :: r) σ := xr_aload_n dX0_endsAt_33
theorem eX0_endsAt_34 {a : Nat} : wX0_endsAt B ad K 34 L (.ref a :: r) σ ↔ ∃ fs v, σ.1 a = some (1, fs) ∧ fs[13]? = some v ∧ wX0_endsAt B ad K 37 L (v :: r) σ := xr_getfield (t := 1) (j := 13) dX0_endsAt_34 rfl
theorem eX0_endsAt_37 : wX0_endsAt B ad K 37 L r σ ↔ ∃ v, L[0]? = some v ∧ x_rfv v ∧ wX0_endsAt B ad K 38 L (v :: r) σ := xr_aload_n dX0_endsAt_37
theorem eX0_endsAt_38 {a : Nat} : wX0_endsAt B ad K 38 L (.ref a :: r) σ ↔ ∃ fs v, σ.1 a = some (1, fs) ∧ fs[6]? = some v ∧ wX0_endsAt B ad K 41 L (v :: r) σ := xr_getfield (t := 1) (j := 6) dX0_endsAt_38 rfl
theorem eX0_endsAt_41 {v0 v1 : Value} : wX0_endsAt B ad K 41 L (v1 :: v0 :: r) σ ↔ ((r.map fun v => v.category).sum ≤ 8 ∧ x_cl (x_v 5 (eX5_copyFrom B ad)) [v0, v1] σ (fun v g => wX0_endsAt B ad K 44 L (v.toList ++ r) g)) := xr_callV [v0, v1] r dX0_endsAt_41 rfl
theorem eX0_endsAt_44 : wX0_endsAt B ad K 44 L r σ ↔ ∃ v, L[2]? = some (.long v) ∧ wX0_endsAt B ad K 45 L (.long v :: r) σ := xr_lload_n dX0_endsAt_44
theorem eX0_endsAt_45 : wX0_endsAt B ad K 45 L r σ ↔ wX0_endsAt B ad K 48 L (.long 1073741823 :: r) σ := xr_ldc2 dX0_endsAt_45 rfl
theorem eX0_endsAt_48 {x y : Int64} : wX0_endsAt B ad K 48 L (.long y :: .long x :: r) σ ↔ wX0_endsAt B ad K 49 L (.int (lg_cmp x y) :: r) σ := xr_lcmp dX0_endsAt_48
theorem eX0_endsAt_49 {x : Int32} : wX0_endsAt B ad K 49 L (.int x :: r) σ ↔ (if x = 0 then wX0_endsAt B ad K 59 L r σ else wX0_endsAt B ad K 52 L r σ) := (xr_if_eq dX0_endsAt_49 (by decide)).trans x_ite
theorem eX0_endsAt_52 : wX0_endsAt B ad K 52 L r σ ↔ ∃ v, L[1]? = some (.int v) ∧ wX0_endsAt B ad K 53 L (.int v :: r) σ := xr_iload_n dX0_endsAt_52
theorem eX0_endsAt_53 : wX0_endsAt B ad K 53 L r σ ↔ wX0_endsAt B ad K 56 L (.int (-10000) :: r) σ := xr_sipush dX0_endsAt_53 (by decide)
theorem eX0_endsAt_56 {x y : Int32} : wX0_endsAt B ad K 56 L (.int y :: .int x :: r) σ ↔ (if x = y then wX0_endsAt B ad K 59 L r σ else wX0_endsAt B ad K 63 L r σ) := (xr_icmp_ne dX0_endsAt_56 (by decide)).trans x_ite
theorem eX0_endsAt_59 : wX0_endsAt B ad K 59 L r σ ↔ wX0_endsAt B ad K 60 L (.int 1 :: r) σ := xr_iconst dX0_endsAt_59 (by decide)
theorem eX0_endsAt_60 : wX0_endsAt B ad K 60 L r σ ↔ wX0_endsAt B ad K 64 L r σ := xr_goto dX0_endsAt_60 (by decide)
theorem eX0_endsAt_63 : wX0_endsAt B ad K 63 L r σ ↔ wX0_endsAt B ad K 64 L (.int 0 :: r) σ := xr_iconst dX0_endsAt_63 (by decide)
theorem eX0_endsAt_64 {x : Int32} : wX0_endsAt B ad K 64 L [.int x] σ ↔ ((x = 0 ∨ x = 1) ∧ K (some (.int x)) σ) := xr_zreturn dX0_endsAt_64
end
abbrev wX1_byFactor (B : Nat) (ad : Nat → Nat) (K : xK) : Nat → List Value → List Value → xW → Prop := x_WP B (some .long) (cxX1_byFactor B ad) cX1_byFactor K
section
variable {B : Nat} {ad : Nat → Nat} {K : xK} {L r : List Value} {σ : xW}
theorem eX1_byFactor_0 : wX1_byFactor B ad K 0 L r σ ↔ ∃ v, L[1]? = some (.long v) ∧ wX1_byFactor B ad K 1 L (.long v :: r) σ := xr_lload_n dX1_byFactor_0
theorem eX1_byFactor_1 : wX1_byFactor B ad K 1 L r σ ↔ ∃ v, L[0]? = some v ∧ x_rfv v ∧ wX1_byFactor B ad K 2 L (v :: r) σ := xr_aload_n dX1_byFactor_1
theorem eX1_byFactor_2 {a : Nat} : wX1_byFactor B ad K 2 L (.ref a :: r) σ ↔ ∃ fs v, σ.1 a = some (2, fs) ∧ fs[2]? = some v ∧ wX1_byFactor B ad K 5 L (v :: r) σ := xr_getfield (t := 2) (j := 2) dX1_byFactor_2 rfl
theorem eX1_byFactor_5 {x : Int32} : wX1_byFactor B ad K 5 L (.int x :: r) σ ↔ wX1_byFactor B ad K 6 L (.long x.toInt64 :: r) σ := xr_i2l dX1_byFactor_5
theorem eX1_byFactor_6 {x y : Int64} : wX1_byFactor B ad K 6 L (.long y :: .long x :: r) σ ↔ wX1_byFactor B ad K 7 L (.long (x * y) :: r) σ := xr_lmul dX1_byFactor_6
theorem eX1_byFactor_7 : wX1_byFactor B ad K 7 L r σ ↔ wX1_byFactor B ad K 10 L (.long 1000 :: r) σ := xr_ldc2 dX1_byFactor_7 rfl
theorem eX1_byFactor_10 {x y : Int64} : wX1_byFactor B ad K 10 L (.long y :: .long x :: r) σ ↔ (¬ y = 0 ∧ wX1_byFactor B ad K 11 L (.long (x / y) :: r) σ) := xr_ldiv dX1_byFactor_10
theorem eX1_byFactor_11 {x : Int64} : wX1_byFactor B ad K 11 L [.long x] σ ↔ K (some (.long x)) σ := xr_lreturn dX1_byFactor_11
end
abbrev wX0_partThatFits (B : Nat) (ad : Nat → Nat) (K : xK) : Nat → List Value → List Value → xW → Prop := x_WP B (some .int) (cxX0_partThatFits B ad) cX0_partThatFits K
section
variable {B : Nat} {ad : Nat → Nat} {K : xK} {L r : List Value} {σ : xW}
theorem eX0_partThatFits_0 : wX0_partThatFits B ad K 0 L r σ ↔ ∃ v, L[0]? = some v ∧ x_rfv v ∧ wX0_partThatFits B ad K 1 L (v :: r) σ := xr_aload_n dX0_partThatFits_0
theorem eX0_partThatFits_1 {a : Nat} : wX0_partThatFits B ad K 1 L (.ref a :: r) σ ↔ ∃ fs v, σ.1 a = some (1, fs) ∧ fs[6]? = some v ∧ wX0_partThatFits B ad K 4 L (v :: r) σ := xr_getfield (t := 1) (j := 6) dX0_partThatFits_1 rfl
theorem eX0_partThatFits_4 {a : Nat} : wX0_partThatFits B ad K 4 L (.ref a :: r) σ ↔ ∃ fs v, σ.1 a = some (5, fs) ∧ fs[1]? = some v ∧ wX0_partThatFits B ad K 7 L (v :: r) σ := xr_getfield (t := 5) (j := 1) dX0_partThatFits_4 rfl
theorem eX0_partThatFits_7 : wX0_partThatFits B ad K 7 L r σ ↔ ∃ v, L[0]? = some v ∧ x_rfv v ∧ wX0_partThatFits B ad K 8 L (v :: r) σ := xr_aload_n dX0_partThatFits_7
theorem eX0_partThatFits_8 {a : Nat} : wX0_partThatFits B ad K 8 L (.ref a :: r) σ ↔ ∃ fs v, σ.1 a = some (1, fs) ∧ fs[6]? = some v ∧ wX0_partThatFits B ad K 11 L (v :: r) σ := xr_getfield (t := 1) (j := 6) dX0_partThatFits_8 rfl
theorem eX0_partThatFits_11 {a : Nat} : wX0_partThatFits B ad K 11 L (.ref a :: r) σ ↔ ∃ fs v, σ.1 a = some (5, fs) ∧ fs[0]? = some v ∧ wX0_partThatFits B ad K 14 L (v :: r) σ := xr_getfield (t := 5) (j := 0) dX0_partThatFits_11 rfl
theorem eX0_partThatFits_14 {x y : Int64} : wX0_partThatFits B ad K 14 L (.long y :: .long x :: r) σ ↔ wX0_partThatFits B ad K 15 L (.long (x - y) :: r) σ := xr_lsub dX0_partThatFits_14
theorem eX0_partThatFits_15 : wX0_partThatFits B ad K 15 L r σ ↔ ∃ v, L[0]? = some v ∧ x_rfv v ∧ wX0_partThatFits B ad K 16 L (v :: r) σ := xr_aload_n dX0_partThatFits_15
theorem eX0_partThatFits_16 {a : Nat} : wX0_partThatFits B ad K 16 L (.ref a :: r) σ ↔ ∃ fs v, σ.1 a = some (1, fs) ∧ fs[6]? = some v ∧ wX0_partThatFits B ad K 19 L (v :: r) σ := xr_getfield (t := 1) (j := 6) dX0_partThatFits_16 rfl
theorem eX0_partThatFits_19 {a : Nat} : wX0_partThatFits B ad K 19 L (.ref a :: r) σ ↔ ∃ fs v, σ.1 a = some (5, fs) ∧ fs[2]? = some v ∧ wX0_partThatFits B ad K 22 L (v :: r) σ := xr_getfield (t := 5) (j := 2) dX0_partThatFits_19 rfl
theorem eX0_partThatFits_22 {x y : Int64} : wX0_partThatFits B ad K 22 L (.long y :: .long x :: r) σ ↔ wX0_partThatFits B ad K 23 L (.long (x - y) :: r) σ := xr_lsub dX0_partThatFits_22
theorem eX0_partThatFits_23 {v : Int64} : wX0_partThatFits B ad K 23 L (.long v :: r) σ ↔ (3 + 1 < L.length ∧ x_nl L 3 ∧ wX0_partThatFits B ad K 24 ((L.set 3 (.long v)).set (3 + 1) (.retAddr 0)) r σ) := xr_lstore_n dX0_partThatFits_23
theorem eX0_partThatFits_24 : wX0_partThatFits B ad K 24 L r σ ↔ ∃ v, L[2]? = some v ∧ x_rfv v ∧ wX0_partThatFits B ad K 25 L (v :: r) σ := xr_aload_n dX0_partThatFits_24
theorem eX0_partThatFits_25 {a : Nat} : wX0_partThatFits B ad K 25 L (.ref a :: r) σ ↔ ∃ fs v, σ.1 a = some (2, fs) ∧ fs[1]? = some v ∧ wX0_partThatFits B ad K 28 L (v :: r) σ := xr_getfield (t := 2) (j := 1) dX0_partThatFits_25 rfl
theorem eX0_partThatFits_28 {x : Int32} : wX0_partThatFits B ad K 28 L (.int x :: r) σ ↔ wX0_partThatFits B ad K 29 L (.long x.toInt64 :: r) σ := xr_i2l dX0_partThatFits_28
theorem eX0_partThatFits_29 : wX0_partThatFits B ad K 29 L r σ ↔ ∃ v, L[0]? = some v ∧ x_rfv v ∧ wX0_partThatFits B ad K 30 L (v :: r) σ := xr_aload_n dX0_partThatFits_29
theorem eX0_partThatFits_30 {a : Nat} : wX0_partThatFits B ad K 30 L (.ref a :: r) σ ↔ ∃ fs v, σ.1 a = some (1, fs) ∧ fs[6]? = some v ∧ wX0_partThatFits B ad K 33 L (v :: r) σ := xr_getfield (t := 1) (j := 6) dX0_partThatFits_30 rfl
theorem eX0_partThatFits_33 {a : Nat} : wX0_partThatFits B ad K 33 L (.ref a :: r) σ ↔ ∃ fs v, σ.1 a = some (5, fs) ∧ fs[5]? = some v ∧ wX0_partThatFits B ad K 36 L (v :: r) σ := xr_getfield (t := 5) (j := 5) dX0_partThatFits_33 rfl
theorem eX0_partThatFits_36 : wX0_partThatFits B ad K 36 L r σ ↔ ∃ v, L[2]? = some v ∧ x_rfv v ∧ wX0_partThatFits B ad K 37 L (v :: r) σ := xr_aload_n dX0_partThatFits_36
theorem eX0_partThatFits_37 {a : Nat} : wX0_partThatFits B ad K 37 L (.ref a :: r) σ ↔ ∃ fs v, σ.1 a = some (2, fs) ∧ fs[0]? = some v ∧ wX0_partThatFits B ad K 40 L (v :: r) σ := xr_getfield (t := 2) (j := 0) dX0_partThatFits_37 rfl
theorem eX0_partThatFits_40 {a : Nat} {x : Int32} : wX0_partThatFits B ad K 40 L (.int x :: .ref a :: r) σ ↔ ∃ V v, σ.1 a = some (101, V) ∧ x_ix x V = some v ∧ wX0_partThatFits B ad K 41 L (v :: r) σ := xr_laload dX0_partThatFits_40
theorem eX0_partThatFits_41 {x y : Int64} : wX0_partThatFits B ad K 41 L (.long y :: .long x :: r) σ ↔ wX0_partThatFits B ad K 42 L (.long (x - y) :: r) σ := xr_lsub dX0_partThatFits_41
theorem eX0_partThatFits_42 {v : Int64} : wX0_partThatFits B ad K 42 L (.long v :: r) σ ↔ (5 + 1 < L.length ∧ x_nl L 5 ∧ wX0_partThatFits B ad K 44 ((L.set 5 (.long v)).set (5 + 1) (.retAddr 0)) r σ) := xr_lstore dX0_partThatFits_42
theorem eX0_partThatFits_44 : wX0_partThatFits B ad K 44 L r σ ↔ ∃ v, L[2]? = some v ∧ x_rfv v ∧ wX0_partThatFits B ad K 45 L (v :: r) σ := xr_aload_n dX0_partThatFits_44
theorem eX0_partThatFits_45 : wX0_partThatFits B ad K 45 L r σ ↔ ∃ v, L[1]? = some v ∧ x_rfv v ∧ wX0_partThatFits B ad K 46 L (v :: r) σ := xr_aload_n dX0_partThatFits_45
theorem eX0_partThatFits_46 {a : Nat} : wX0_partThatFits B ad K 46 L (.ref a :: r) σ ↔ ∃ fs v, σ.1 a = some (3, fs) ∧ fs[9]? = some v ∧ wX0_partThatFits B ad K 49 L (v :: r) σ := xr_getfield (t := 3) (j := 9) dX0_partThatFits_46 rfl
theorem eX0_partThatFits_49 {x : Int32} : wX0_partThatFits B ad K 49 L (.int x :: r) σ ↔ wX0_partThatFits B ad K 50 L (.long x.toInt64 :: r) σ := xr_i2l dX0_partThatFits_49
theorem eX0_partThatFits_50 {v0 v1 : Value} : wX0_partThatFits B ad K 50 L (v1 :: v0 :: r) σ ↔ ((r.map fun v => v.category).sum ≤ 8 ∧ x_cl (x_v 2 (eX1_byFactor B ad)) [v0, v1] σ (fun v g => wX0_partThatFits B ad K 53 L (v.toList ++ r) g)) := xr_callV [v0, v1] r dX0_partThatFits_50 rfl
theorem eX0_partThatFits_53 {v : Int64} : wX0_partThatFits B ad K 53 L (.long v :: r) σ ↔ (7 + 1 < L.length ∧ x_nl L 7 ∧ wX0_partThatFits B ad K 55 ((L.set 7 (.long v)).set (7 + 1) (.retAddr 0)) r σ) := xr_lstore dX0_partThatFits_53
theorem eX0_partThatFits_55 : wX0_partThatFits B ad K 55 L r σ ↔ ∃ v, L[7]? = some (.long v) ∧ wX0_partThatFits B ad K 57 L (.long v :: r) σ := xr_lload dX0_partThatFits_55
theorem eX0_partThatFits_57 : wX0_partThatFits B ad K 57 L r σ ↔ wX0_partThatFits B ad K 58 L (.long 0 :: r) σ := xr_lconst dX0_partThatFits_57 (by decide)
theorem eX0_partThatFits_58 {x y : Int64} : wX0_partThatFits B ad K 58 L (.long y :: .long x :: r) σ ↔ wX0_partThatFits B ad K 59 L (.int (lg_cmp x y) :: r) σ := xr_lcmp dX0_partThatFits_58
theorem eX0_partThatFits_59 {x : Int32} : wX0_partThatFits B ad K 59 L (.int x :: r) σ ↔ (if x = 0 then wX0_partThatFits B ad K 77 L r σ else wX0_partThatFits B ad K 62 L r σ) := (xr_if_eq dX0_partThatFits_59 (by decide)).trans x_ite
theorem eX0_partThatFits_62 : wX0_partThatFits B ad K 62 L r σ ↔ ∃ v, L[7]? = some (.long v) ∧ wX0_partThatFits B ad K 64 L (.long v :: r) σ := xr_lload dX0_partThatFits_62
theorem eX0_partThatFits_64 : wX0_partThatFits B ad K 64 L r σ ↔ ∃ v, L[3]? = some (.long v) ∧ wX0_partThatFits B ad K 65 L (.long v :: r) σ := xr_lload_n dX0_partThatFits_64
theorem eX0_partThatFits_65 : wX0_partThatFits B ad K 65 L r σ ↔ ∃ v, L[0]? = some v ∧ x_rfv v ∧ wX0_partThatFits B ad K 66 L (v :: r) σ := xr_aload_n dX0_partThatFits_65
theorem eX0_partThatFits_66 {a : Nat} : wX0_partThatFits B ad K 66 L (.ref a :: r) σ ↔ ∃ fs v, σ.1 a = some (1, fs) ∧ fs[6]? = some v ∧ wX0_partThatFits B ad K 69 L (v :: r) σ := xr_getfield (t := 1) (j := 6) dX0_partThatFits_66 rfl
theorem eX0_partThatFits_69 {a : Nat} : wX0_partThatFits B ad K 69 L (.ref a :: r) σ ↔ ∃ fs v, σ.1 a = some (5, fs) ∧ fs[3]? = some v ∧ wX0_partThatFits B ad K 72 L (v :: r) σ := xr_getfield (t := 5) (j := 3) dX0_partThatFits_69 rfl
theorem eX0_partThatFits_72 {x y : Int64} : wX0_partThatFits B ad K 72 L (.long y :: .long x :: r) σ ↔ wX0_partThatFits B ad K 73 L (.long (x + y) :: r) σ := xr_ladd dX0_partThatFits_72
theorem eX0_partThatFits_73 {x y : Int64} : wX0_partThatFits B ad K 73 L (.long y :: .long x :: r) σ ↔ wX0_partThatFits B ad K 74 L (.int (lg_cmp x y) :: r) σ := xr_lcmp dX0_partThatFits_73
theorem eX0_partThatFits_74 {x : Int32} : wX0_partThatFits B ad K 74 L (.int x :: r) σ ↔ (if 0 < x.toInt then wX0_partThatFits B ad K 93 L r σ else wX0_partThatFits B ad K 77 L r σ) := (xr_if_gt dX0_partThatFits_74 (by decide)).trans x_ite
theorem eX0_partThatFits_77 : wX0_partThatFits B ad K 77 L r σ ↔ ∃ v, L[1]? = some v ∧ x_rfv v ∧ wX0_partThatFits B ad K 78 L (v :: r) σ := xr_aload_n dX0_partThatFits_77
theorem eX0_partThatFits_78 {a : Nat} : wX0_partThatFits B ad K 78 L (.ref a :: r) σ ↔ ∃ fs v, σ.1 a = some (3, fs) ∧ fs[9]? = some v ∧ wX0_partThatFits B ad K 81 L (v :: r) σ := xr_getfield (t := 3) (j := 9) dX0_partThatFits_78 rfl
theorem eX0_partThatFits_81 {x : Int32} : wX0_partThatFits B ad K 81 L (.int x :: r) σ ↔ wX0_partThatFits B ad K 82 L (.long x.toInt64 :: r) σ := xr_i2l dX0_partThatFits_81
theorem eX0_partThatFits_82 : wX0_partThatFits B ad K 82 L r σ ↔ ∃ v, L[5]? = some (.long v) ∧ wX0_partThatFits B ad K 84 L (.long v :: r) σ := xr_lload dX0_partThatFits_82
theorem eX0_partThatFits_84 {x y : Int64} : wX0_partThatFits B ad K 84 L (.long y :: .long x :: r) σ ↔ wX0_partThatFits B ad K 85 L (.int (lg_cmp x y) :: r) σ := xr_lcmp dX0_partThatFits_84
theorem eX0_partThatFits_85 {x : Int32} : wX0_partThatFits B ad K 85 L (.int x :: r) σ ↔ (if 0 < x.toInt then wX0_partThatFits B ad K 93 L r σ else wX0_partThatFits B ad K 88 L r σ) := (xr_if_gt dX0_partThatFits_85 (by decide)).trans x_ite
theorem eX0_partThatFits_88 : wX0_partThatFits B ad K 88 L r σ ↔ ∃ v, L[1]? = some v ∧ x_rfv v ∧ wX0_partThatFits B ad K 89 L (v :: r) σ := xr_aload_n dX0_partThatFits_88
theorem eX0_partThatFits_89 {a : Nat} : wX0_partThatFits B ad K 89 L (.ref a :: r) σ ↔ ∃ fs v, σ.1 a = some (3, fs) ∧ fs[9]? = some v ∧ wX0_partThatFits B ad K 92 L (v :: r) σ := xr_getfield (t := 3) (j := 9) dX0_partThatFits_89 rfl
theorem eX0_partThatFits_92 {x : Int32} : wX0_partThatFits B ad K 92 L [.int x] σ ↔ K (some (.int x)) σ := xr_ireturn dX0_partThatFits_92
theorem eX0_partThatFits_93 : wX0_partThatFits B ad K 93 L r σ ↔ ∃ v, L[1]? = some v ∧ x_rfv v ∧ wX0_partThatFits B ad K 94 L (v :: r) σ := xr_aload_n dX0_partThatFits_93
theorem eX0_partThatFits_94 {a : Nat} : wX0_partThatFits B ad K 94 L (.ref a :: r) σ ↔ ∃ fs v, σ.1 a = some (3, fs) ∧ fs[8]? = some v ∧ wX0_partThatFits B ad K 97 L (v :: r) σ := xr_getfield (t := 3) (j := 8) dX0_partThatFits_94 rfl
theorem eX0_partThatFits_97 {x : Int32} : wX0_partThatFits B ad K 97 L (.int x :: r) σ ↔ (if x = 0 then wX0_partThatFits B ad K 100 L r σ else wX0_partThatFits B ad K 102 L r σ) := (xr_if_ne dX0_partThatFits_97 (by decide)).trans x_ite
theorem eX0_partThatFits_100 : wX0_partThatFits B ad K 100 L r σ ↔ wX0_partThatFits B ad K 101 L (.int 0 :: r) σ := xr_iconst dX0_partThatFits_100 (by decide)
theorem eX0_partThatFits_101 {x : Int32} : wX0_partThatFits B ad K 101 L [.int x] σ ↔ K (some (.int x)) σ := xr_ireturn dX0_partThatFits_101
theorem eX0_partThatFits_102 : wX0_partThatFits B ad K 102 L r σ ↔ ∃ v, L[1]? = some v ∧ x_rfv v ∧ wX0_partThatFits B ad K 103 L (v :: r) σ := xr_aload_n dX0_partThatFits_102
theorem eX0_partThatFits_103 {a : Nat} : wX0_partThatFits B ad K 103 L (.ref a :: r) σ ↔ ∃ fs v, σ.1 a = some (3, fs) ∧ fs[9]? = some v ∧ wX0_partThatFits B ad K 106 L (v :: r) σ := xr_getfield (t := 3) (j := 9) dX0_partThatFits_103 rfl
theorem eX0_partThatFits_106 : wX0_partThatFits B ad K 106 L r σ ↔ wX0_partThatFits B ad K 107 L (.int 1 :: r) σ := xr_iconst dX0_partThatFits_106 (by decide)
theorem eX0_partThatFits_107 {x y : Int32} : wX0_partThatFits B ad K 107 L (.int y :: .int x :: r) σ ↔ wX0_partThatFits B ad K 108 L (.int (x - y) :: r) σ := xr_isub dX0_partThatFits_107
theorem eX0_partThatFits_108 {x : Int32} : wX0_partThatFits B ad K 108 L (.int x :: r) σ ↔ wX0_partThatFits B ad K 109 L (.long x.toInt64 :: r) σ := xr_i2l dX0_partThatFits_108
theorem eX0_partThatFits_109 : wX0_partThatFits B ad K 109 L r σ ↔ ∃ v, L[5]? = some (.long v) ∧ wX0_partThatFits B ad K 111 L (.long v :: r) σ := xr_lload dX0_partThatFits_109
theorem eX0_partThatFits_111 {v0 v1 : Value} : wX0_partThatFits B ad K 111 L (v1 :: v0 :: r) σ ↔ ((r.map fun v => v.category).sum ≤ 8 ∧ x_cl (x_min) [v0, v1] σ (fun v g => wX0_partThatFits B ad K 114 L (v.toList ++ r) g)) := xr_callS [v0, v1] r dX0_partThatFits_111 rfl
theorem eX0_partThatFits_114 {v : Int64} : wX0_partThatFits B ad K 114 L (.long v :: r) σ ↔ (9 + 1 < L.length ∧ x_nl L 9 ∧ wX0_partThatFits B ad K 116 ((L.set 9 (.long v)).set (9 + 1) (.retAddr 0)) r σ) := xr_lstore dX0_partThatFits_114
theorem eX0_partThatFits_116 : wX0_partThatFits B ad K 116 L r σ ↔ ∃ v, L[2]? = some v ∧ x_rfv v ∧ wX0_partThatFits B ad K 117 L (v :: r) σ := xr_aload_n dX0_partThatFits_116
theorem eX0_partThatFits_117 {a : Nat} : wX0_partThatFits B ad K 117 L (.ref a :: r) σ ↔ ∃ fs v, σ.1 a = some (2, fs) ∧ fs[2]? = some v ∧ wX0_partThatFits B ad K 120 L (v :: r) σ := xr_getfield (t := 2) (j := 2) dX0_partThatFits_117 rfl
theorem eX0_partThatFits_120 {x : Int32} : wX0_partThatFits B ad K 120 L (.int x :: r) σ ↔ (if 0 < x.toInt then wX0_partThatFits B ad K 123 L r σ else wX0_partThatFits B ad K 141 L r σ) := (xr_if_le dX0_partThatFits_120 (by decide)).trans x_ite
theorem eX0_partThatFits_123 : wX0_partThatFits B ad K 123 L r σ ↔ ∃ v, L[9]? = some (.long v) ∧ wX0_partThatFits B ad K 125 L (.long v :: r) σ := xr_lload dX0_partThatFits_123
theorem eX0_partThatFits_125 : wX0_partThatFits B ad K 125 L r σ ↔ ∃ v, L[3]? = some (.long v) ∧ wX0_partThatFits B ad K 126 L (.long v :: r) σ := xr_lload_n dX0_partThatFits_125
theorem eX0_partThatFits_126 : wX0_partThatFits B ad K 126 L r σ ↔ wX0_partThatFits B ad K 129 L (.long 1000 :: r) σ := xr_ldc2 dX0_partThatFits_126 rfl
theorem eX0_partThatFits_129 {x y : Int64} : wX0_partThatFits B ad K 129 L (.long y :: .long x :: r) σ ↔ wX0_partThatFits B ad K 130 L (.long (x * y) :: r) σ := xr_lmul dX0_partThatFits_129
theorem eX0_partThatFits_130 : wX0_partThatFits B ad K 130 L r σ ↔ ∃ v, L[2]? = some v ∧ x_rfv v ∧ wX0_partThatFits B ad K 131 L (v :: r) σ := xr_aload_n dX0_partThatFits_130
theorem eX0_partThatFits_131 {a : Nat} : wX0_partThatFits B ad K 131 L (.ref a :: r) σ ↔ ∃ fs v, σ.1 a = some (2, fs) ∧ fs[2]? = some v ∧ wX0_partThatFits B ad K 134 L (v :: r) σ := xr_getfield (t := 2) (j := 2) dX0_partThatFits_131 rfl
theorem eX0_partThatFits_134 {x : Int32} : wX0_partThatFits B ad K 134 L (.int x :: r) σ ↔ wX0_partThatFits B ad K 135 L (.long x.toInt64 :: r) σ := xr_i2l dX0_partThatFits_134
theorem eX0_partThatFits_135 {x y : Int64} : wX0_partThatFits B ad K 135 L (.long y :: .long x :: r) σ ↔ (¬ y = 0 ∧ wX0_partThatFits B ad K 136 L (.long (x / y) :: r) σ) := xr_ldiv dX0_partThatFits_135
theorem eX0_partThatFits_136 {v0 v1 : Value} : wX0_partThatFits B ad K 136 L (v1 :: v0 :: r) σ ↔ ((r.map fun v => v.category).sum ≤ 8 ∧ x_cl (x_min) [v0, v1] σ (fun v g => wX0_partThatFits B ad K 139 L (v.toList ++ r) g)) := xr_callS [v0, v1] r dX0_partThatFits_136 rfl
theorem eX0_partThatFits_139 {v : Int64} : wX0_partThatFits B ad K 139 L (.long v :: r) σ ↔ (9 + 1 < L.length ∧ x_nl L 9 ∧ wX0_partThatFits B ad K 141 ((L.set 9 (.long v)).set (9 + 1) (.retAddr 0)) r σ) := xr_lstore dX0_partThatFits_139
theorem eX0_partThatFits_141 : wX0_partThatFits B ad K 141 L r σ ↔ ∃ v, L[9]? = some (.long v) ∧ wX0_partThatFits B ad K 143 L (.long v :: r) σ := xr_lload dX0_partThatFits_141
theorem eX0_partThatFits_143 : wX0_partThatFits B ad K 143 L r σ ↔ wX0_partThatFits B ad K 144 L (.long 1 :: r) σ := xr_lconst dX0_partThatFits_143 (by decide)
theorem eX0_partThatFits_144 {x y : Int64} : wX0_partThatFits B ad K 144 L (.long y :: .long x :: r) σ ↔ wX0_partThatFits B ad K 145 L (.int (lg_cmp x y) :: r) σ := xr_lcmp dX0_partThatFits_144
theorem eX0_partThatFits_145 {x : Int32} : wX0_partThatFits B ad K 145 L (.int x :: r) σ ↔ (if x.toInt < 0 then wX0_partThatFits B ad K 148 L r σ else wX0_partThatFits B ad K 152 L r σ) := (xr_if_ge dX0_partThatFits_145 (by decide)).trans x_ite
theorem eX0_partThatFits_148 : wX0_partThatFits B ad K 148 L r σ ↔ wX0_partThatFits B ad K 149 L (.int 0 :: r) σ := xr_iconst dX0_partThatFits_148 (by decide)
theorem eX0_partThatFits_149 : wX0_partThatFits B ad K 149 L r σ ↔ wX0_partThatFits B ad K 155 L r σ := xr_goto dX0_partThatFits_149 (by decide)
theorem eX0_partThatFits_152 : wX0_partThatFits B ad K 152 L r σ ↔ ∃ v, L[9]? = some (.long v) ∧ wX0_partThatFits B ad K 154 L (.long v :: r) σ := xr_lload dX0_partThatFits_152
theorem eX0_partThatFits_154 {x : Int64} : wX0_partThatFits B ad K 154 L (.long x :: r) σ ↔ wX0_partThatFits B ad K 155 L (.int x.toInt32 :: r) σ := xr_l2i dX0_partThatFits_154
theorem eX0_partThatFits_155 {x : Int32} : wX0_partThatFits B ad K 155 L [.int x] σ ↔ K (some (.int x)) σ := xr_ireturn dX0_partThatFits_155
end
abbrev wX0_putInsert (B : Nat) (ad : Nat → Nat) (K : xK) : Nat → List Value → List Value → xW → Prop := x_WP B (some .int) (cxX0_putInsert B ad) cX0_putInsert K
section
variable {B : Nat} {ad : Nat → Nat} {K : xK} {L r : List Value} {σ : xW}
theorem eX0_putInsert_0 : wX0_putInsert B ad K 0 L r σ ↔ ∃ v, L[0]? = some v ∧ x_rfv v ∧ wX0_putInsert B ad K 1 L (v :: r) σ := xr_aload_n dX0_putInsert_0
theorem eX0_putInsert_1 {a : Nat} : wX0_putInsert B ad K 1 L (.ref a :: r) σ ↔ ∃ fs v, σ.1 a = some (1, fs) ∧ fs[7]? = some v ∧ wX0_putInsert B ad K 4 L (v :: r) σ := xr_getfield (t := 1) (j := 7) dX0_putInsert_1 rfl
theorem eX0_putInsert_4 : wX0_putInsert B ad K 4 L r σ ↔ ∃ v, L[2]? = some v ∧ x_rfv v ∧ wX0_putInsert B ad K 5 L (v :: r) σ := xr_aload_n dX0_putInsert_4
theorem eX0_putInsert_5 {a : Nat} : wX0_putInsert B ad K 5 L (.ref a :: r) σ ↔ ∃ fs v, σ.1 a = some (2, fs) ∧ fs[0]? = some v ∧ wX0_putInsert B ad K 8 L (v :: r) σ := xr_getfield (t := 2) (j := 0) dX0_putInsert_5 rfl
theorem eX0_putInsert_8 {a : Nat} {x : Int32} : wX0_putInsert B ad K 8 L (.int x :: .ref a :: r) σ ↔ ∃ V v, σ.1 a = some (102, V) ∧ x_ix x V = some v ∧ wX0_putInsert B ad K 9 L (v :: r) σ := xr_baload dX0_putInsert_8
theorem eX0_putInsert_9 {x : Int32} : wX0_putInsert B ad K 9 L (.int x :: r) σ ↔ (if x = 0 then wX0_putInsert B ad K 12 L r σ else wX0_putInsert B ad K 39 L r σ) := (xr_if_ne dX0_putInsert_9 (by decide)).trans x_ite
theorem eX0_putInsert_12 : wX0_putInsert B ad K 12 L r σ ↔ ∃ v, L[0]? = some v ∧ x_rfv v ∧ wX0_putInsert B ad K 13 L (v :: r) σ := xr_aload_n dX0_putInsert_12
theorem eX0_putInsert_13 {a : Nat} : wX0_putInsert B ad K 13 L (.ref a :: r) σ ↔ ∃ fs v, σ.1 a = some (1, fs) ∧ fs[7]? = some v ∧ wX0_putInsert B ad K 16 L (v :: r) σ := xr_getfield (t := 1) (j := 7) dX0_putInsert_13 rfl
theorem eX0_putInsert_16 : wX0_putInsert B ad K 16 L r σ ↔ ∃ v, L[2]? = some v ∧ x_rfv v ∧ wX0_putInsert B ad K 17 L (v :: r) σ := xr_aload_n dX0_putInsert_16
theorem eX0_putInsert_17 {a : Nat} : wX0_putInsert B ad K 17 L (.ref a :: r) σ ↔ ∃ fs v, σ.1 a = some (2, fs) ∧ fs[0]? = some v ∧ wX0_putInsert B ad K 20 L (v :: r) σ := xr_getfield (t := 2) (j := 0) dX0_putInsert_17 rfl
theorem eX0_putInsert_20 : wX0_putInsert B ad K 20 L r σ ↔ wX0_putInsert B ad K 21 L (.int 1 :: r) σ := xr_iconst dX0_putInsert_20 (by decide)
theorem eX0_putInsert_21 {a : Nat} {j x : Int32} : wX0_putInsert B ad K 21 L (.int x :: .int j :: .ref a :: r) σ ↔ ∃ V, σ.1 a = some (102, V) ∧ (x = 0 ∨ x = 1) ∧ (x_ix j V).isSome ∧ B ≤ a ∧ wX0_putInsert B ad K 22 L r (x_up σ.1 a (102, V.set j.toInt.toNat (.int x)), σ.2) := xr_bastore dX0_putInsert_21
theorem eX0_putInsert_22 : wX0_putInsert B ad K 22 L r σ ↔ ∃ v, L[0]? = some v ∧ x_rfv v ∧ wX0_putInsert B ad K 23 L (v :: r) σ := xr_aload_n dX0_putInsert_22
theorem eX0_putInsert_23 {a : Nat} : wX0_putInsert B ad K 23 L (.ref a :: r) σ ↔ ∃ fs v, σ.1 a = some (1, fs) ∧ fs[6]? = some v ∧ wX0_putInsert B ad K 26 L (v :: r) σ := xr_getfield (t := 1) (j := 6) dX0_putInsert_23 rfl
theorem eX0_putInsert_26 {v : Value} : wX0_putInsert B ad K 26 L (v :: r) σ ↔ (v.category = 1 ∧ wX0_putInsert B ad K 27 L (v :: v :: r) σ) := xr_dup dX0_putInsert_26
theorem eX0_putInsert_27 {a : Nat} : wX0_putInsert B ad K 27 L (.ref a :: r) σ ↔ ∃ fs v, σ.1 a = some (5, fs) ∧ fs[1]? = some v ∧ wX0_putInsert B ad K 30 L (v :: r) σ := xr_getfield (t := 5) (j := 1) dX0_putInsert_27 rfl
theorem eX0_putInsert_30 : wX0_putInsert B ad K 30 L r σ ↔ ∃ v, L[2]? = some v ∧ x_rfv v ∧ wX0_putInsert B ad K 31 L (v :: r) σ := xr_aload_n dX0_putInsert_30
theorem eX0_putInsert_31 {a : Nat} : wX0_putInsert B ad K 31 L (.ref a :: r) σ ↔ ∃ fs v, σ.1 a = some (2, fs) ∧ fs[3]? = some v ∧ wX0_putInsert B ad K 34 L (v :: r) σ := xr_getfield (t := 2) (j := 3) dX0_putInsert_31 rfl
theorem eX0_putInsert_34 {x : Int32} : wX0_putInsert B ad K 34 L (.int x :: r) σ ↔ wX0_putInsert B ad K 35 L (.long x.toInt64 :: r) σ := xr_i2l dX0_putInsert_34
theorem eX0_putInsert_35 {x y : Int64} : wX0_putInsert B ad K 35 L (.long y :: .long x :: r) σ ↔ wX0_putInsert B ad K 36 L (.long (x - y) :: r) σ := xr_lsub dX0_putInsert_35
theorem eX0_putInsert_36 {x : Int64} {a : Nat} : wX0_putInsert B ad K 36 L (.long x :: .ref a :: r) σ ↔ ∃ fs, σ.1 a = some (5, fs) ∧ 1 < fs.length ∧ B ≤ a ∧ wX0_putInsert B ad K 39 L r (x_up σ.1 a (5, fs.set 1 (.long x)), σ.2) := xr_put_l (t := 5) (j := 1) dX0_putInsert_36 rfl (by decide)
theorem eX0_putInsert_39 : wX0_putInsert B ad K 39 L r σ ↔ ∃ v, L[0]? = some v ∧ x_rfv v ∧ wX0_putInsert B ad K 40 L (v :: r) σ := xr_aload_n dX0_putInsert_39
theorem eX0_putInsert_40 {a : Nat} : wX0_putInsert B ad K 40 L (.ref a :: r) σ ↔ ∃ fs v, σ.1 a = some (1, fs) ∧ fs[8]? = some v ∧ wX0_putInsert B ad K 43 L (v :: r) σ := xr_getfield (t := 1) (j := 8) dX0_putInsert_40 rfl
theorem eX0_putInsert_43 : wX0_putInsert B ad K 43 L r σ ↔ ∃ v, L[2]? = some v ∧ x_rfv v ∧ wX0_putInsert B ad K 44 L (v :: r) σ := xr_aload_n dX0_putInsert_43
theorem eX0_putInsert_44 {a : Nat} : wX0_putInsert B ad K 44 L (.ref a :: r) σ ↔ ∃ fs v, σ.1 a = some (2, fs) ∧ fs[0]? = some v ∧ wX0_putInsert B ad K 47 L (v :: r) σ := xr_getfield (t := 2) (j := 0) dX0_putInsert_44 rfl
theorem eX0_putInsert_47 {a : Nat} {x : Int32} : wX0_putInsert B ad K 47 L (.int x :: .ref a :: r) σ ↔ ∃ V v, σ.1 a = some (102, V) ∧ x_ix x V = some v ∧ wX0_putInsert B ad K 48 L (v :: r) σ := xr_baload dX0_putInsert_47
theorem eX0_putInsert_48 {x : Int32} : wX0_putInsert B ad K 48 L (.int x :: r) σ ↔ (if x = 0 then wX0_putInsert B ad K 55 L r σ else wX0_putInsert B ad K 51 L r σ) := (xr_if_eq dX0_putInsert_48 (by decide)).trans x_ite
theorem eX0_putInsert_51 : wX0_putInsert B ad K 51 L r σ ↔ wX0_putInsert B ad K 52 L (.int 0 :: r) σ := xr_iconst dX0_putInsert_51 (by decide)
theorem eX0_putInsert_52 : wX0_putInsert B ad K 52 L r σ ↔ wX0_putInsert B ad K 61 L r σ := xr_goto dX0_putInsert_52 (by decide)
theorem eX0_putInsert_55 : wX0_putInsert B ad K 55 L r σ ↔ ∃ v, L[0]? = some v ∧ x_rfv v ∧ wX0_putInsert B ad K 56 L (v :: r) σ := xr_aload_n dX0_putInsert_55
theorem eX0_putInsert_56 : wX0_putInsert B ad K 56 L r σ ↔ ∃ v, L[1]? = some v ∧ x_rfv v ∧ wX0_putInsert B ad K 57 L (v :: r) σ := xr_aload_n dX0_putInsert_56
theorem eX0_putInsert_57 : wX0_putInsert B ad K 57 L r σ ↔ ∃ v, L[2]? = some v ∧ x_rfv v ∧ wX0_putInsert B ad K 58 L (v :: r) σ := xr_aload_n dX0_putInsert_57
theorem eX0_putInsert_58 {v0 v1 v2 : Value} : wX0_putInsert B ad K 58 L (v2 :: v1 :: v0 :: r) σ ↔ ((r.map fun v => v.category).sum ≤ 8 ∧ x_cl (x_v 1 (eX0_partThatFits B ad)) [v0, v1, v2] σ (fun v g => wX0_putInsert B ad K 61 L (v.toList ++ r) g)) := xr_callV [v0, v1, v2] r dX0_putInsert_58 rfl
theorem eX0_putInsert_61 {v : Int32} : wX0_putInsert B ad K 61 L (.int v :: r) σ ↔ (3 < L.length ∧ x_nl L 3 ∧ wX0_putInsert B ad K 62 (L.set 3 (.int v)) r σ) := xr_istore_n dX0_putInsert_61
theorem eX0_putInsert_62 : wX0_putInsert B ad K 62 L r σ ↔ ∃ v, L[0]? = some v ∧ x_rfv v ∧ wX0_putInsert B ad K 63 L (v :: r) σ := xr_aload_n dX0_putInsert_62
theorem eX0_putInsert_63 {a : Nat} : wX0_putInsert B ad K 63 L (.ref a :: r) σ ↔ ∃ fs v, σ.1 a = some (1, fs) ∧ fs[6]? = some v ∧ wX0_putInsert B ad K 66 L (v :: r) σ := xr_getfield (t := 1) (j := 6) dX0_putInsert_63 rfl
theorem eX0_putInsert_66 {a : Nat} : wX0_putInsert B ad K 66 L (.ref a :: r) σ ↔ ∃ fs v, σ.1 a = some (5, fs) ∧ fs[5]? = some v ∧ wX0_putInsert B ad K 69 L (v :: r) σ := xr_getfield (t := 5) (j := 5) dX0_putInsert_66 rfl
theorem eX0_putInsert_69 : wX0_putInsert B ad K 69 L r σ ↔ ∃ v, L[2]? = some v ∧ x_rfv v ∧ wX0_putInsert B ad K 70 L (v :: r) σ := xr_aload_n dX0_putInsert_69
theorem eX0_putInsert_70 {a : Nat} : wX0_putInsert B ad K 70 L (.ref a :: r) σ ↔ ∃ fs v, σ.1 a = some (2, fs) ∧ fs[0]? = some v ∧ wX0_putInsert B ad K 73 L (v :: r) σ := xr_getfield (t := 2) (j := 0) dX0_putInsert_70 rfl
theorem eX0_putInsert_73 {x : Int32} {b : Nat} : wX0_putInsert B ad K 73 L (.int x :: .ref b :: r) σ ↔ wX0_putInsert B ad K 74 L (.int x :: .ref b :: .int x :: .ref b :: r) σ := xr_dup2_ia dX0_putInsert_73
theorem eX0_putInsert_74 {a : Nat} {x : Int32} : wX0_putInsert B ad K 74 L (.int x :: .ref a :: r) σ ↔ ∃ V v, σ.1 a = some (101, V) ∧ x_ix x V = some v ∧ wX0_putInsert B ad K 75 L (v :: r) σ := xr_laload dX0_putInsert_74
theorem eX0_putInsert_75 : wX0_putInsert B ad K 75 L r σ ↔ ∃ v, L[3]? = some (.int v) ∧ wX0_putInsert B ad K 76 L (.int v :: r) σ := xr_iload_n dX0_putInsert_75
theorem eX0_putInsert_76 {x : Int32} : wX0_putInsert B ad K 76 L (.int x :: r) σ ↔ wX0_putInsert B ad K 77 L (.long x.toInt64 :: r) σ := xr_i2l dX0_putInsert_76
theorem eX0_putInsert_77 {x y : Int64} : wX0_putInsert B ad K 77 L (.long y :: .long x :: r) σ ↔ wX0_putInsert B ad K 78 L (.long (x + y) :: r) σ := xr_ladd dX0_putInsert_77
theorem eX0_putInsert_78 {a : Nat} {j : Int32} {x : Int64} : wX0_putInsert B ad K 78 L (.long x :: .int j :: .ref a :: r) σ ↔ ∃ V, σ.1 a = some (101, V) ∧ (x_ix j V).isSome ∧ B ≤ a ∧ wX0_putInsert B ad K 79 L r (x_up σ.1 a (101, V.set j.toInt.toNat (.long x)), σ.2) := xr_lastore dX0_putInsert_78
theorem eX0_putInsert_79 : wX0_putInsert B ad K 79 L r σ ↔ ∃ v, L[0]? = some v ∧ x_rfv v ∧ wX0_putInsert B ad K 80 L (v :: r) σ := xr_aload_n dX0_putInsert_79
theorem eX0_putInsert_80 {a : Nat} : wX0_putInsert B ad K 80 L (.ref a :: r) σ ↔ ∃ fs v, σ.1 a = some (1, fs) ∧ fs[6]? = some v ∧ wX0_putInsert B ad K 83 L (v :: r) σ := xr_getfield (t := 1) (j := 6) dX0_putInsert_80 rfl
theorem eX0_putInsert_83 {v : Value} : wX0_putInsert B ad K 83 L (v :: r) σ ↔ (v.category = 1 ∧ wX0_putInsert B ad K 84 L (v :: v :: r) σ) := xr_dup dX0_putInsert_83
theorem eX0_putInsert_84 {a : Nat} : wX0_putInsert B ad K 84 L (.ref a :: r) σ ↔ ∃ fs v, σ.1 a = some (5, fs) ∧ fs[1]? = some v ∧ wX0_putInsert B ad K 87 L (v :: r) σ := xr_getfield (t := 5) (j := 1) dX0_putInsert_84 rfl
theorem eX0_putInsert_87 : wX0_putInsert B ad K 87 L r σ ↔ ∃ v, L[2]? = some v ∧ x_rfv v ∧ wX0_putInsert B ad K 88 L (v :: r) σ := xr_aload_n dX0_putInsert_87
theorem eX0_putInsert_88 : wX0_putInsert B ad K 88 L r σ ↔ ∃ v, L[3]? = some (.int v) ∧ wX0_putInsert B ad K 89 L (.int v :: r) σ := xr_iload_n dX0_putInsert_88
theorem eX0_putInsert_89 {x : Int32} : wX0_putInsert B ad K 89 L (.int x :: r) σ ↔ wX0_putInsert B ad K 90 L (.long x.toInt64 :: r) σ := xr_i2l dX0_putInsert_89
theorem eX0_putInsert_90 {v0 v1 : Value} : wX0_putInsert B ad K 90 L (v1 :: v0 :: r) σ ↔ ((r.map fun v => v.category).sum ≤ 8 ∧ x_cl (x_v 2 (eX1_byFactor B ad)) [v0, v1] σ (fun v g => wX0_putInsert B ad K 93 L (v.toList ++ r) g)) := xr_callV [v0, v1] r dX0_putInsert_90 rfl
theorem eX0_putInsert_93 {x y : Int64} : wX0_putInsert B ad K 93 L (.long y :: .long x :: r) σ ↔ wX0_putInsert B ad K 94 L (.long (x - y) :: r) σ := xr_lsub dX0_putInsert_93
theorem eX0_putInsert_94 {x : Int64} {a : Nat} : wX0_putInsert B ad K 94 L (.long x :: .ref a :: r) σ ↔ ∃ fs, σ.1 a = some (5, fs) ∧ 1 < fs.length ∧ B ≤ a ∧ wX0_putInsert B ad K 97 L r (x_up σ.1 a (5, fs.set 1 (.long x)), σ.2) := xr_put_l (t := 5) (j := 1) dX0_putInsert_94 rfl (by decide)
theorem eX0_putInsert_97 : wX0_putInsert B ad K 97 L r σ ↔ ∃ v, L[3]? = some (.int v) ∧ wX0_putInsert B ad K 98 L (.int v :: r) σ := xr_iload_n dX0_putInsert_97
theorem eX0_putInsert_98 : wX0_putInsert B ad K 98 L r σ ↔ ∃ v, L[1]? = some v ∧ x_rfv v ∧ wX0_putInsert B ad K 99 L (v :: r) σ := xr_aload_n dX0_putInsert_98
theorem eX0_putInsert_99 {a : Nat} : wX0_putInsert B ad K 99 L (.ref a :: r) σ ↔ ∃ fs v, σ.1 a = some (3, fs) ∧ fs[9]? = some v ∧ wX0_putInsert B ad K 102 L (v :: r) σ := xr_getfield (t := 3) (j := 9) dX0_putInsert_99 rfl
theorem eX0_putInsert_102 {x y : Int32} : wX0_putInsert B ad K 102 L (.int y :: .int x :: r) σ ↔ (if x.toInt < y.toInt then wX0_putInsert B ad K 105 L r σ else wX0_putInsert B ad K 129 L r σ) := (xr_icmp_ge dX0_putInsert_102 (by decide)).trans x_ite
theorem eX0_putInsert_105 : wX0_putInsert B ad K 105 L r σ ↔ ∃ v, L[0]? = some v ∧ x_rfv v ∧ wX0_putInsert B ad K 106 L (v :: r) σ := xr_aload_n dX0_putInsert_105
theorem eX0_putInsert_106 {a : Nat} : wX0_putInsert B ad K 106 L (.ref a :: r) σ ↔ ∃ fs v, σ.1 a = some (1, fs) ∧ fs[8]? = some v ∧ wX0_putInsert B ad K 109 L (v :: r) σ := xr_getfield (t := 1) (j := 8) dX0_putInsert_106 rfl
theorem eX0_putInsert_109 : wX0_putInsert B ad K 109 L r σ ↔ ∃ v, L[2]? = some v ∧ x_rfv v ∧ wX0_putInsert B ad K 110 L (v :: r) σ := xr_aload_n dX0_putInsert_109
theorem eX0_putInsert_110 {a : Nat} : wX0_putInsert B ad K 110 L (.ref a :: r) σ ↔ ∃ fs v, σ.1 a = some (2, fs) ∧ fs[0]? = some v ∧ wX0_putInsert B ad K 113 L (v :: r) σ := xr_getfield (t := 2) (j := 0) dX0_putInsert_110 rfl
theorem eX0_putInsert_113 : wX0_putInsert B ad K 113 L r σ ↔ wX0_putInsert B ad K 114 L (.int 1 :: r) σ := xr_iconst dX0_putInsert_113 (by decide)
theorem eX0_putInsert_114 {a : Nat} {j x : Int32} : wX0_putInsert B ad K 114 L (.int x :: .int j :: .ref a :: r) σ ↔ ∃ V, σ.1 a = some (102, V) ∧ (x = 0 ∨ x = 1) ∧ (x_ix j V).isSome ∧ B ≤ a ∧ wX0_putInsert B ad K 115 L r (x_up σ.1 a (102, V.set j.toInt.toNat (.int x)), σ.2) := xr_bastore dX0_putInsert_114
theorem eX0_putInsert_115 : wX0_putInsert B ad K 115 L r σ ↔ ∃ v, L[0]? = some v ∧ x_rfv v ∧ wX0_putInsert B ad K 116 L (v :: r) σ := xr_aload_n dX0_putInsert_115
theorem eX0_putInsert_116 {v : Value} : wX0_putInsert B ad K 116 L (v :: r) σ ↔ (v.category = 1 ∧ wX0_putInsert B ad K 117 L (v :: v :: r) σ) := xr_dup dX0_putInsert_116
theorem eX0_putInsert_117 {a : Nat} : wX0_putInsert B ad K 117 L (.ref a :: r) σ ↔ ∃ fs v, σ.1 a = some (1, fs) ∧ fs[9]? = some v ∧ wX0_putInsert B ad K 120 L (v :: r) σ := xr_getfield (t := 1) (j := 9) dX0_putInsert_117 rfl
theorem eX0_putInsert_120 : wX0_putInsert B ad K 120 L r σ ↔ ∃ v, L[2]? = some v ∧ x_rfv v ∧ wX0_putInsert B ad K 121 L (v :: r) σ := xr_aload_n dX0_putInsert_120
theorem eX0_putInsert_121 {a : Nat} : wX0_putInsert B ad K 121 L (.ref a :: r) σ ↔ ∃ fs v, σ.1 a = some (2, fs) ∧ fs[4]? = some v ∧ wX0_putInsert B ad K 124 L (v :: r) σ := xr_getfield (t := 2) (j := 4) dX0_putInsert_121 rfl
theorem eX0_putInsert_124 {x : Int32} : wX0_putInsert B ad K 124 L (.int x :: r) σ ↔ wX0_putInsert B ad K 125 L (.long x.toInt64 :: r) σ := xr_i2l dX0_putInsert_124
theorem eX0_putInsert_125 {x y : Int64} : wX0_putInsert B ad K 125 L (.long y :: .long x :: r) σ ↔ wX0_putInsert B ad K 126 L (.long (x + y) :: r) σ := xr_ladd dX0_putInsert_125
theorem eX0_putInsert_126 {x : Int64} {a : Nat} : wX0_putInsert B ad K 126 L (.long x :: .ref a :: r) σ ↔ ∃ fs, σ.1 a = some (1, fs) ∧ 9 < fs.length ∧ B ≤ a ∧ wX0_putInsert B ad K 129 L r (x_up σ.1 a (1, fs.set 9 (.long x)), σ.2) := xr_put_l (t := 1) (j := 9) dX0_putInsert_126 rfl (by decide)
theorem eX0_putInsert_129 : wX0_putInsert B ad K 129 L r σ ↔ ∃ v, L[3]? = some (.int v) ∧ wX0_putInsert B ad K 130 L (.int v :: r) σ := xr_iload_n dX0_putInsert_129
theorem eX0_putInsert_130 {x : Int32} : wX0_putInsert B ad K 130 L [.int x] σ ↔ K (some (.int x)) σ := xr_ireturn dX0_putInsert_130
end
abbrev wX5_grow (B : Nat) (ad : Nat → Nat) (K : xK) : Nat → List Value → List Value → xW → Prop := x_WP B none (cxX5_grow B ad) cX5_grow K
section
variable {B : Nat} {ad : Nat → Nat} {K : xK} {L r : List Value} {σ : xW}
theorem eX5_grow_0 : wX5_grow B ad K 0 L r σ ↔ ∃ v, L[0]? = some v ∧ x_rfv v ∧ wX5_grow B ad K 1 L (v :: r) σ := xr_aload_n dX5_grow_0
theorem eX5_grow_1 {v : Value} : wX5_grow B ad K 1 L (v :: r) σ ↔ (v.category = 1 ∧ wX5_grow B ad K 2 L (v :: v :: r) σ) := xr_dup dX5_grow_1
theorem eX5_grow_2 {a : Nat} : wX5_grow B ad K 2 L (.ref a :: r) σ ↔ ∃ fs v, σ.1 a = some (5, fs) ∧ fs[0]? = some v ∧ wX5_grow B ad K 5 L (v :: r) σ := xr_getfield (t := 5) (j := 0) dX5_grow_2 rfl
theorem eX5_grow_5 : wX5_grow B ad K 5 L r σ ↔ ∃ v, L[0]? = some v ∧ x_rfv v ∧ wX5_grow B ad K 6 L (v :: r) σ := xr_aload_n dX5_grow_5
theorem eX5_grow_6 {a : Nat} : wX5_grow B ad K 6 L (.ref a :: r) σ ↔ ∃ fs v, σ.1 a = some (5, fs) ∧ fs[2]? = some v ∧ wX5_grow B ad K 9 L (v :: r) σ := xr_getfield (t := 5) (j := 2) dX5_grow_6 rfl
theorem eX5_grow_9 : wX5_grow B ad K 9 L r σ ↔ ∃ v, L[1]? = some (.long v) ∧ wX5_grow B ad K 10 L (.long v :: r) σ := xr_lload_n dX5_grow_9
theorem eX5_grow_10 {x y : Int64} : wX5_grow B ad K 10 L (.long y :: .long x :: r) σ ↔ wX5_grow B ad K 11 L (.long (x + y) :: r) σ := xr_ladd dX5_grow_10
theorem eX5_grow_11 {x y : Int64} : wX5_grow B ad K 11 L (.long y :: .long x :: r) σ ↔ wX5_grow B ad K 12 L (.long (x + y) :: r) σ := xr_ladd dX5_grow_11
theorem eX5_grow_12 {x : Int64} {a : Nat} : wX5_grow B ad K 12 L (.long x :: .ref a :: r) σ ↔ ∃ fs, σ.1 a = some (5, fs) ∧ 0 < fs.length ∧ B ≤ a ∧ wX5_grow B ad K 15 L r (x_up σ.1 a (5, fs.set 0 (.long x)), σ.2) := xr_put_l (t := 5) (j := 0) dX5_grow_12 rfl (by decide)
theorem eX5_grow_15 : wX5_grow B ad K 15 L r σ ↔ ∃ v, L[0]? = some v ∧ x_rfv v ∧ wX5_grow B ad K 16 L (v :: r) σ := xr_aload_n dX5_grow_15
theorem eX5_grow_16 : wX5_grow B ad K 16 L r σ ↔ ∃ v, L[3]? = some (.long v) ∧ wX5_grow B ad K 17 L (.long v :: r) σ := xr_lload_n dX5_grow_16
theorem eX5_grow_17 {x : Int64} {a : Nat} : wX5_grow B ad K 17 L (.long x :: .ref a :: r) σ ↔ ∃ fs, σ.1 a = some (5, fs) ∧ 2 < fs.length ∧ B ≤ a ∧ wX5_grow B ad K 20 L r (x_up σ.1 a (5, fs.set 2 (.long x)), σ.2) := xr_put_l (t := 5) (j := 2) dX5_grow_17 rfl (by decide)
theorem eX5_grow_20 : wX5_grow B ad K 20 L r σ ↔ ∃ v, L[0]? = some v ∧ x_rfv v ∧ wX5_grow B ad K 21 L (v :: r) σ := xr_aload_n dX5_grow_20
theorem eX5_grow_21 {a : Nat} : wX5_grow B ad K 21 L (.ref a :: r) σ ↔ ∃ fs v, σ.1 a = some (5, fs) ∧ fs[2]? = some v ∧ wX5_grow B ad K 24 L (v :: r) σ := xr_getfield (t := 5) (j := 2) dX5_grow_21 rfl
theorem eX5_grow_24 : wX5_grow B ad K 24 L r σ ↔ ∃ v, L[5]? = some (.long v) ∧ wX5_grow B ad K 26 L (.long v :: r) σ := xr_lload dX5_grow_24
theorem eX5_grow_26 {x y : Int64} : wX5_grow B ad K 26 L (.long y :: .long x :: r) σ ↔ wX5_grow B ad K 27 L (.int (lg_cmp x y) :: r) σ := xr_lcmp dX5_grow_26
theorem eX5_grow_27 {x : Int32} : wX5_grow B ad K 27 L (.int x :: r) σ ↔ (if 0 < x.toInt then wX5_grow B ad K 30 L r σ else wX5_grow B ad K 52 L r σ) := (xr_if_le dX5_grow_27 (by decide)).trans x_ite
theorem eX5_grow_30 : wX5_grow B ad K 30 L r σ ↔ ∃ v, L[0]? = some v ∧ x_rfv v ∧ wX5_grow B ad K 31 L (v :: r) σ := xr_aload_n dX5_grow_30
theorem eX5_grow_31 {v : Value} : wX5_grow B ad K 31 L (v :: r) σ ↔ (v.category = 1 ∧ wX5_grow B ad K 32 L (v :: v :: r) σ) := xr_dup dX5_grow_31
theorem eX5_grow_32 {a : Nat} : wX5_grow B ad K 32 L (.ref a :: r) σ ↔ ∃ fs v, σ.1 a = some (5, fs) ∧ fs[0]? = some v ∧ wX5_grow B ad K 35 L (v :: r) σ := xr_getfield (t := 5) (j := 0) dX5_grow_32 rfl
theorem eX5_grow_35 : wX5_grow B ad K 35 L r σ ↔ ∃ v, L[0]? = some v ∧ x_rfv v ∧ wX5_grow B ad K 36 L (v :: r) σ := xr_aload_n dX5_grow_35
theorem eX5_grow_36 {a : Nat} : wX5_grow B ad K 36 L (.ref a :: r) σ ↔ ∃ fs v, σ.1 a = some (5, fs) ∧ fs[2]? = some v ∧ wX5_grow B ad K 39 L (v :: r) σ := xr_getfield (t := 5) (j := 2) dX5_grow_36 rfl
theorem eX5_grow_39 : wX5_grow B ad K 39 L r σ ↔ ∃ v, L[5]? = some (.long v) ∧ wX5_grow B ad K 41 L (.long v :: r) σ := xr_lload dX5_grow_39
theorem eX5_grow_41 {x y : Int64} : wX5_grow B ad K 41 L (.long y :: .long x :: r) σ ↔ wX5_grow B ad K 42 L (.long (x - y) :: r) σ := xr_lsub dX5_grow_41
theorem eX5_grow_42 {x y : Int64} : wX5_grow B ad K 42 L (.long y :: .long x :: r) σ ↔ wX5_grow B ad K 43 L (.long (x + y) :: r) σ := xr_ladd dX5_grow_42
theorem eX5_grow_43 {x : Int64} {a : Nat} : wX5_grow B ad K 43 L (.long x :: .ref a :: r) σ ↔ ∃ fs, σ.1 a = some (5, fs) ∧ 0 < fs.length ∧ B ≤ a ∧ wX5_grow B ad K 46 L r (x_up σ.1 a (5, fs.set 0 (.long x)), σ.2) := xr_put_l (t := 5) (j := 0) dX5_grow_43 rfl (by decide)
theorem eX5_grow_46 : wX5_grow B ad K 46 L r σ ↔ ∃ v, L[0]? = some v ∧ x_rfv v ∧ wX5_grow B ad K 47 L (v :: r) σ := xr_aload_n dX5_grow_46
theorem eX5_grow_47 : wX5_grow B ad K 47 L r σ ↔ ∃ v, L[5]? = some (.long v) ∧ wX5_grow B ad K 49 L (.long v :: r) σ := xr_lload dX5_grow_47
theorem eX5_grow_49 {x : Int64} {a : Nat} : wX5_grow B ad K 49 L (.long x :: .ref a :: r) σ ↔ ∃ fs, σ.1 a = some (5, fs) ∧ 2 < fs.length ∧ B ≤ a ∧ wX5_grow B ad K 52 L r (x_up σ.1 a (5, fs.set 2 (.long x)), σ.2) := xr_put_l (t := 5) (j := 2) dX5_grow_49 rfl (by decide)
theorem eX5_grow_52 : wX5_grow B ad K 52 L [] σ ↔ K none σ := xr_return dX5_grow_52
end
abbrev wX0_putBox (B : Nat) (ad : Nat → Nat) (K : xK) : Nat → List Value → List Value → xW → Prop := x_WP B none (cxX0_putBox B ad) cX0_putBox K
section
variable {B : Nat} {ad : Nat → Nat} {K : xK} {L r : List Value} {σ : xW}
theorem eX0_putBox_0 : wX0_putBox B ad K 0 L r σ ↔ ∃ v, L[0]? = some v ∧ x_rfv v ∧ wX0_putBox B ad K 1 L (v :: r) σ := xr_aload_n dX0_putBox_0
theorem eX0_putBox_1 {a : Nat} : wX0_putBox B ad K 1 L (.ref a :: r) σ ↔ ∃ fs v, σ.1 a = some (1, fs) ∧ fs[3]? = some v ∧ wX0_putBox B ad K 4 L (v :: r) σ := xr_getfield (t := 1) (j := 3) dX0_putBox_1 rfl
theorem eX0_putBox_4 {x : Int32} : wX0_putBox B ad K 4 L (.int x :: r) σ ↔ (if x = 0 then wX0_putBox B ad K 7 L r σ else wX0_putBox B ad K 42 L r σ) := (xr_if_ne dX0_putBox_4 (by decide)).trans x_ite
theorem eX0_putBox_7 : wX0_putBox B ad K 7 L r σ ↔ ∃ v, L[1]? = some v ∧ x_rfv v ∧ wX0_putBox B ad K 8 L (v :: r) σ := xr_aload_n dX0_putBox_7
theorem eX0_putBox_8 {a : Nat} : wX0_putBox B ad K 8 L (.ref a :: r) σ ↔ ∃ fs v, σ.1 a = some (3, fs) ∧ fs[2]? = some v ∧ wX0_putBox B ad K 11 L (v :: r) σ := xr_getfield (t := 3) (j := 2) dX0_putBox_8 rfl
theorem eX0_putBox_11 {x : Int32} : wX0_putBox B ad K 11 L (.int x :: r) σ ↔ wX0_putBox B ad K 12 L (.long x.toInt64 :: r) σ := xr_i2l dX0_putBox_11
theorem eX0_putBox_12 : wX0_putBox B ad K 12 L r σ ↔ ∃ v, L[0]? = some v ∧ x_rfv v ∧ wX0_putBox B ad K 13 L (v :: r) σ := xr_aload_n dX0_putBox_12
theorem eX0_putBox_13 {a : Nat} : wX0_putBox B ad K 13 L (.ref a :: r) σ ↔ ∃ fs v, σ.1 a = some (1, fs) ∧ fs[5]? = some v ∧ wX0_putBox B ad K 16 L (v :: r) σ := xr_getfield (t := 1) (j := 5) dX0_putBox_13 rfl
theorem eX0_putBox_16 {x y : Int64} : wX0_putBox B ad K 16 L (.long y :: .long x :: r) σ ↔ wX0_putBox B ad K 17 L (.int (lg_cmp x y) :: r) σ := xr_lcmp dX0_putBox_16
theorem eX0_putBox_17 {x : Int32} : wX0_putBox B ad K 17 L (.int x :: r) σ ↔ (if x.toInt < 0 then wX0_putBox B ad K 20 L r σ else wX0_putBox B ad K 42 L r σ) := (xr_if_ge dX0_putBox_17 (by decide)).trans x_ite
theorem eX0_putBox_20 : wX0_putBox B ad K 20 L r σ ↔ ∃ v, L[0]? = some v ∧ x_rfv v ∧ wX0_putBox B ad K 21 L (v :: r) σ := xr_aload_n dX0_putBox_20
theorem eX0_putBox_21 {a : Nat} : wX0_putBox B ad K 21 L (.ref a :: r) σ ↔ ∃ fs v, σ.1 a = some (1, fs) ∧ fs[6]? = some v ∧ wX0_putBox B ad K 24 L (v :: r) σ := xr_getfield (t := 1) (j := 6) dX0_putBox_21 rfl
theorem eX0_putBox_24 {v : Value} : wX0_putBox B ad K 24 L (v :: r) σ ↔ (v.category = 1 ∧ wX0_putBox B ad K 25 L (v :: v :: r) σ) := xr_dup dX0_putBox_24
theorem eX0_putBox_25 {a : Nat} : wX0_putBox B ad K 25 L (.ref a :: r) σ ↔ ∃ fs v, σ.1 a = some (5, fs) ∧ fs[0]? = some v ∧ wX0_putBox B ad K 28 L (v :: r) σ := xr_getfield (t := 5) (j := 0) dX0_putBox_25 rfl
theorem eX0_putBox_28 : wX0_putBox B ad K 28 L r σ ↔ ∃ v, L[0]? = some v ∧ x_rfv v ∧ wX0_putBox B ad K 29 L (v :: r) σ := xr_aload_n dX0_putBox_28
theorem eX0_putBox_29 {a : Nat} : wX0_putBox B ad K 29 L (.ref a :: r) σ ↔ ∃ fs v, σ.1 a = some (1, fs) ∧ fs[5]? = some v ∧ wX0_putBox B ad K 32 L (v :: r) σ := xr_getfield (t := 1) (j := 5) dX0_putBox_29 rfl
theorem eX0_putBox_32 : wX0_putBox B ad K 32 L r σ ↔ ∃ v, L[1]? = some v ∧ x_rfv v ∧ wX0_putBox B ad K 33 L (v :: r) σ := xr_aload_n dX0_putBox_32
theorem eX0_putBox_33 {a : Nat} : wX0_putBox B ad K 33 L (.ref a :: r) σ ↔ ∃ fs v, σ.1 a = some (3, fs) ∧ fs[2]? = some v ∧ wX0_putBox B ad K 36 L (v :: r) σ := xr_getfield (t := 3) (j := 2) dX0_putBox_33 rfl
theorem eX0_putBox_36 {x : Int32} : wX0_putBox B ad K 36 L (.int x :: r) σ ↔ wX0_putBox B ad K 37 L (.long x.toInt64 :: r) σ := xr_i2l dX0_putBox_36
theorem eX0_putBox_37 {x y : Int64} : wX0_putBox B ad K 37 L (.long y :: .long x :: r) σ ↔ wX0_putBox B ad K 38 L (.long (x - y) :: r) σ := xr_lsub dX0_putBox_37
theorem eX0_putBox_38 {x y : Int64} : wX0_putBox B ad K 38 L (.long y :: .long x :: r) σ ↔ wX0_putBox B ad K 39 L (.long (x + y) :: r) σ := xr_ladd dX0_putBox_38
theorem eX0_putBox_39 {x : Int64} {a : Nat} : wX0_putBox B ad K 39 L (.long x :: .ref a :: r) σ ↔ ∃ fs, σ.1 a = some (5, fs) ∧ 0 < fs.length ∧ B ≤ a ∧ wX0_putBox B ad K 42 L r (x_up σ.1 a (5, fs.set 0 (.long x)), σ.2) := xr_put_l (t := 5) (j := 0) dX0_putBox_39 rfl (by decide)
theorem eX0_putBox_42 : wX0_putBox B ad K 42 L r σ ↔ ∃ v, L[0]? = some v ∧ x_rfv v ∧ wX0_putBox B ad K 43 L (v :: r) σ := xr_aload_n dX0_putBox_42
theorem eX0_putBox_43 : wX0_putBox B ad K 43 L r σ ↔ wX0_putBox B ad K 44 L (.int 1 :: r) σ := xr_iconst dX0_putBox_43 (by decide)
theorem eX0_putBox_44 {x : Int32} {a : Nat} : wX0_putBox B ad K 44 L (.int x :: .ref a :: r) σ ↔ ∃ fs, σ.1 a = some (1, fs) ∧ 3 < fs.length ∧ B ≤ a ∧ (x = 0 ∨ x = 1) ∧ wX0_putBox B ad K 47 L r (x_up σ.1 a (1, fs.set 3 (.int x)), σ.2) := xr_put_z (t := 1) (j := 3) dX0_putBox_44 rfl (by decide)
theorem eX0_putBox_47 : wX0_putBox B ad K 47 L r σ ↔ ∃ v, L[0]? = some v ∧ x_rfv v ∧ wX0_putBox B ad K 48 L (v :: r) σ := xr_aload_n dX0_putBox_47
theorem eX0_putBox_48 {a : Nat} : wX0_putBox B ad K 48 L (.ref a :: r) σ ↔ ∃ fs v, σ.1 a = some (1, fs) ∧ fs[6]? = some v ∧ wX0_putBox B ad K 51 L (v :: r) σ := xr_getfield (t := 1) (j := 6) dX0_putBox_48 rfl
theorem eX0_putBox_51 : wX0_putBox B ad K 51 L r σ ↔ ∃ v, L[1]? = some v ∧ x_rfv v ∧ wX0_putBox B ad K 52 L (v :: r) σ := xr_aload_n dX0_putBox_51
theorem eX0_putBox_52 {a : Nat} : wX0_putBox B ad K 52 L (.ref a :: r) σ ↔ ∃ fs v, σ.1 a = some (3, fs) ∧ fs[2]? = some v ∧ wX0_putBox B ad K 55 L (v :: r) σ := xr_getfield (t := 3) (j := 2) dX0_putBox_52 rfl
theorem eX0_putBox_55 {x : Int32} : wX0_putBox B ad K 55 L (.int x :: r) σ ↔ wX0_putBox B ad K 56 L (.long x.toInt64 :: r) σ := xr_i2l dX0_putBox_55
theorem eX0_putBox_56 : wX0_putBox B ad K 56 L r σ ↔ ∃ v, L[1]? = some v ∧ x_rfv v ∧ wX0_putBox B ad K 57 L (v :: r) σ := xr_aload_n dX0_putBox_56
theorem eX0_putBox_57 {a : Nat} : wX0_putBox B ad K 57 L (.ref a :: r) σ ↔ ∃ fs v, σ.1 a = some (3, fs) ∧ fs[3]? = some v ∧ wX0_putBox B ad K 60 L (v :: r) σ := xr_getfield (t := 3) (j := 3) dX0_putBox_57 rfl
theorem eX0_putBox_60 {x : Int32} : wX0_putBox B ad K 60 L (.int x :: r) σ ↔ wX0_putBox B ad K 61 L (.long x.toInt64 :: r) σ := xr_i2l dX0_putBox_60
theorem eX0_putBox_61 : wX0_putBox B ad K 61 L r σ ↔ ∃ v, L[0]? = some v ∧ x_rfv v ∧ wX0_putBox B ad K 62 L (v :: r) σ := xr_aload_n dX0_putBox_61
theorem eX0_putBox_62 {a : Nat} : wX0_putBox B ad K 62 L (.ref a :: r) σ ↔ ∃ fs v, σ.1 a = some (1, fs) ∧ fs[4]? = some v ∧ wX0_putBox B ad K 65 L (v :: r) σ := xr_getfield (t := 1) (j := 4) dX0_putBox_62 rfl
theorem eX0_putBox_65 {v0 v1 v2 v3 : Value} : wX0_putBox B ad K 65 L (v3 :: v2 :: v1 :: v0 :: r) σ ↔ ((r.map fun v => v.category).sum ≤ 8 ∧ x_cl (x_v 5 (eX5_grow B ad)) [v0, v1, v2, v3] σ (fun v g => wX0_putBox B ad K 68 L (v.toList ++ r) g)) := xr_callV [v0, v1, v2, v3] r dX0_putBox_65 rfl
theorem eX0_putBox_68 : wX0_putBox B ad K 68 L [] σ ↔ K none σ := xr_return dX0_putBox_68
end
abbrev wX0_put (B : Nat) (ad : Nat → Nat) (K : xK) : Nat → List Value → List Value → xW → Prop := x_WP B none (cxX0_put B ad) cX0_put K
section
variable {B : Nat} {ad : Nat → Nat} {K : xK} {L r : List Value} {σ : xW}
theorem eX0_put_0 : wX0_put B ad K 0 L r σ ↔ ∃ v, L[0]? = some v ∧ x_rfv v ∧ wX0_put B ad K 1 L (v :: r) σ := xr_aload_n dX0_put_0
theorem eX0_put_1 {a : Nat} : wX0_put B ad K 1 L (.ref a :: r) σ ↔ ∃ fs v, σ.1 a = some (1, fs) ∧ fs[2]? = some v ∧ wX0_put B ad K 4 L (v :: r) σ := xr_getfield (t := 1) (j := 2) dX0_put_1 rfl
theorem eX0_put_4 : wX0_put B ad K 4 L r σ ↔ wX0_put B ad K 7 L (.int 400 :: r) σ := xr_sipush dX0_put_4 (by decide)
theorem eX0_put_7 {x y : Int32} : wX0_put B ad K 7 L (.int y :: .int x :: r) σ ↔ (if x.toInt < y.toInt then wX0_put B ad K 11 L r σ else wX0_put B ad K 10 L r σ) := (xr_icmp_lt dX0_put_7 (by decide)).trans x_ite
theorem eX0_put_10 : wX0_put B ad K 10 L [] σ ↔ K none σ := xr_return dX0_put_10
theorem eX0_put_11 : wX0_put B ad K 11 L r σ ↔ ∃ v, L[0]? = some v ∧ x_rfv v ∧ wX0_put B ad K 12 L (v :: r) σ := xr_aload_n dX0_put_11
theorem eX0_put_12 {a : Nat} : wX0_put B ad K 12 L (.ref a :: r) σ ↔ ∃ fs v, σ.1 a = some (1, fs) ∧ fs[0]? = some v ∧ wX0_put B ad K 15 L (v :: r) σ := xr_getfield (t := 1) (j := 0) dX0_put_12 rfl
theorem eX0_put_15 : wX0_put B ad K 15 L r σ ↔ ∃ v, L[0]? = some v ∧ x_rfv v ∧ wX0_put B ad K 16 L (v :: r) σ := xr_aload_n dX0_put_15
theorem eX0_put_16 {a : Nat} : wX0_put B ad K 16 L (.ref a :: r) σ ↔ ∃ fs v, σ.1 a = some (1, fs) ∧ fs[2]? = some v ∧ wX0_put B ad K 19 L (v :: r) σ := xr_getfield (t := 1) (j := 2) dX0_put_16 rfl
theorem eX0_put_19 : wX0_put B ad K 19 L r σ ↔ ∃ v, L[1]? = some v ∧ x_rfv v ∧ wX0_put B ad K 20 L (v :: r) σ := xr_aload_n dX0_put_19
theorem eX0_put_20 {a x : Nat} {j : Int32} : wX0_put B ad K 20 L (.ref x :: .int j :: .ref a :: r) σ ↔ ∃ t V t2 fs, σ.1 a = some (t, V) ∧ σ.1 x = some (t2, fs) ∧ ((t = 103 ∧ t2 = 3) ∨ (t = 104 ∧ t2 = 2) ∨ (t = 105 ∧ t2 = 6)) ∧ (x_ix j V).isSome ∧ B ≤ a ∧ wX0_put B ad K 21 L r (x_up σ.1 a (t, V.set j.toInt.toNat (.ref x)), σ.2) := xr_aastore dX0_put_20
theorem eX0_put_21 : wX0_put B ad K 21 L r σ ↔ ∃ v, L[0]? = some v ∧ x_rfv v ∧ wX0_put B ad K 22 L (v :: r) σ := xr_aload_n dX0_put_21
theorem eX0_put_22 {a : Nat} : wX0_put B ad K 22 L (.ref a :: r) σ ↔ ∃ fs v, σ.1 a = some (1, fs) ∧ fs[1]? = some v ∧ wX0_put B ad K 25 L (v :: r) σ := xr_getfield (t := 1) (j := 1) dX0_put_22 rfl
theorem eX0_put_25 : wX0_put B ad K 25 L r σ ↔ ∃ v, L[0]? = some v ∧ x_rfv v ∧ wX0_put B ad K 26 L (v :: r) σ := xr_aload_n dX0_put_25
theorem eX0_put_26 {a : Nat} : wX0_put B ad K 26 L (.ref a :: r) σ ↔ ∃ fs v, σ.1 a = some (1, fs) ∧ fs[2]? = some v ∧ wX0_put B ad K 29 L (v :: r) σ := xr_getfield (t := 1) (j := 2) dX0_put_26 rfl
theorem eX0_put_29 : wX0_put B ad K 29 L r σ ↔ ∃ v, L[1]? = some v ∧ x_rfv v ∧ wX0_put B ad K 30 L (v :: r) σ := xr_aload_n dX0_put_29
theorem eX0_put_30 {a : Nat} : wX0_put B ad K 30 L (.ref a :: r) σ ↔ ∃ fs v, σ.1 a = some (3, fs) ∧ fs[7]? = some v ∧ wX0_put B ad K 33 L (v :: r) σ := xr_getfield (t := 3) (j := 7) dX0_put_30 rfl
theorem eX0_put_33 {v : Value} : wX0_put B ad K 33 L (v :: r) σ ↔ (x_rfv v ∧ (if v = .null then wX0_put B ad K 36 L r σ else wX0_put B ad K 40 L r σ)) := (xr_ifnonnull dX0_put_33 (by decide)).trans (and_congr_right fun _ => x_ite)
theorem eX0_put_36 : wX0_put B ad K 36 L r σ ↔ wX0_put B ad K 37 L (.int 0 :: r) σ := xr_iconst dX0_put_36 (by decide)
theorem eX0_put_37 : wX0_put B ad K 37 L r σ ↔ wX0_put B ad K 49 L r σ := xr_goto dX0_put_37 (by decide)
theorem eX0_put_40 : wX0_put B ad K 40 L r σ ↔ ∃ v, L[0]? = some v ∧ x_rfv v ∧ wX0_put B ad K 41 L (v :: r) σ := xr_aload_n dX0_put_40
theorem eX0_put_41 : wX0_put B ad K 41 L r σ ↔ ∃ v, L[1]? = some v ∧ x_rfv v ∧ wX0_put B ad K 42 L (v :: r) σ := xr_aload_n dX0_put_41
theorem eX0_put_42 : wX0_put B ad K 42 L r σ ↔ ∃ v, L[1]? = some v ∧ x_rfv v ∧ wX0_put B ad K 43 L (v :: r) σ := xr_aload_n dX0_put_42
theorem eX0_put_43 {a : Nat} : wX0_put B ad K 43 L (.ref a :: r) σ ↔ ∃ fs v, σ.1 a = some (3, fs) ∧ fs[7]? = some v ∧ wX0_put B ad K 46 L (v :: r) σ := xr_getfield (t := 3) (j := 7) dX0_put_43 rfl
theorem eX0_put_46 {v0 v1 v2 : Value} : wX0_put B ad K 46 L (v2 :: v1 :: v0 :: r) σ ↔ ((r.map fun v => v.category).sum ≤ 8 ∧ x_cl (x_v 1 (eX0_putInsert B ad)) [v0, v1, v2] σ (fun v g => wX0_put B ad K 49 L (v.toList ++ r) g)) := xr_callV [v0, v1, v2] r dX0_put_46 rfl
theorem eX0_put_49 {a : Nat} {j : Int32} {x : Int32} : wX0_put B ad K 49 L (.int x :: .int j :: .ref a :: r) σ ↔ ∃ V, σ.1 a = some (100, V) ∧ (x_ix j V).isSome ∧ B ≤ a ∧ wX0_put B ad K 50 L r (x_up σ.1 a (100, V.set j.toInt.toNat (.int x)), σ.2) := xr_iastore dX0_put_49
theorem eX0_put_50 : wX0_put B ad K 50 L r σ ↔ ∃ v, L[0]? = some v ∧ x_rfv v ∧ wX0_put B ad K 51 L (v :: r) σ := xr_aload_n dX0_put_50
theorem eX0_put_51 {v : Value} : wX0_put B ad K 51 L (v :: r) σ ↔ (v.category = 1 ∧ wX0_put B ad K 52 L (v :: v :: r) σ) := xr_dup dX0_put_51
theorem eX0_put_52 {a : Nat} : wX0_put B ad K 52 L (.ref a :: r) σ ↔ ∃ fs v, σ.1 a = some (1, fs) ∧ fs[2]? = some v ∧ wX0_put B ad K 55 L (v :: r) σ := xr_getfield (t := 1) (j := 2) dX0_put_52 rfl
theorem eX0_put_55 : wX0_put B ad K 55 L r σ ↔ wX0_put B ad K 56 L (.int 1 :: r) σ := xr_iconst dX0_put_55 (by decide)
theorem eX0_put_56 {x y : Int32} : wX0_put B ad K 56 L (.int y :: .int x :: r) σ ↔ wX0_put B ad K 57 L (.int (x + y) :: r) σ := xr_iadd dX0_put_56
theorem eX0_put_57 {x : Int32} {a : Nat} : wX0_put B ad K 57 L (.int x :: .ref a :: r) σ ↔ ∃ fs, σ.1 a = some (1, fs) ∧ 2 < fs.length ∧ B ≤ a ∧ wX0_put B ad K 60 L r (x_up σ.1 a (1, fs.set 2 (.int x)), σ.2) := xr_put_i (t := 1) (j := 2) dX0_put_57 rfl (by decide)
theorem eX0_put_60 : wX0_put B ad K 60 L r σ ↔ ∃ v, L[1]? = some v ∧ x_rfv v ∧ wX0_put B ad K 61 L (v :: r) σ := xr_aload_n dX0_put_60
theorem eX0_put_61 {a : Nat} : wX0_put B ad K 61 L (.ref a :: r) σ ↔ ∃ fs v, σ.1 a = some (3, fs) ∧ fs[1]? = some v ∧ wX0_put B ad K 64 L (v :: r) σ := xr_getfield (t := 3) (j := 1) dX0_put_61 rfl
theorem eX0_put_64 : wX0_put B ad K 64 L r σ ↔ wX0_put B ad K 67 L (.ref (ad 0) :: r) σ := xr_gets dX0_put_64 rfl
theorem eX0_put_67 {v u : Value} : wX0_put B ad K 67 L (u :: v :: r) σ ↔ (x_rfv v ∧ x_rfv u ∧ (if v = u then wX0_put B ad K 70 L r σ else wX0_put B ad K 78 L r σ)) := (xr_acmp_ne dX0_put_67 (by decide)).trans (and_congr_right fun _ => and_congr_right fun _ => x_ite)
theorem eX0_put_70 : wX0_put B ad K 70 L r σ ↔ ∃ v, L[0]? = some v ∧ x_rfv v ∧ wX0_put B ad K 71 L (v :: r) σ := xr_aload_n dX0_put_70
theorem eX0_put_71 : wX0_put B ad K 71 L r σ ↔ ∃ v, L[1]? = some v ∧ x_rfv v ∧ wX0_put B ad K 72 L (v :: r) σ := xr_aload_n dX0_put_71
theorem eX0_put_72 {v0 v1 : Value} : wX0_put B ad K 72 L (v1 :: v0 :: r) σ ↔ ((r.map fun v => v.category).sum ≤ 8 ∧ x_cl (x_v 1 (eX0_putBox B ad)) [v0, v1] σ (fun v g => wX0_put B ad K 75 L (v.toList ++ r) g)) := xr_callV [v0, v1] r dX0_put_72 rfl
theorem eX0_put_75 : wX0_put B ad K 75 L r σ ↔ wX0_put B ad K 172 L r σ := xr_goto dX0_put_75 (by decide)
theorem eX0_put_78 : wX0_put B ad K 78 L r σ ↔ ∃ v, L[1]? = some v ∧ x_rfv v ∧ wX0_put B ad K 79 L (v :: r) σ := xr_aload_n dX0_put_78
theorem eX0_put_79 {a : Nat} : wX0_put B ad K 79 L (.ref a :: r) σ ↔ ∃ fs v, σ.1 a = some (3, fs) ∧ fs[1]? = some v ∧ wX0_put B ad K 82 L (v :: r) σ := xr_getfield (t := 3) (j := 1) dX0_put_79 rfl
theorem eX0_put_82 : wX0_put B ad K 82 L r σ ↔ wX0_put B ad K 85 L (.ref (ad 1) :: r) σ := xr_gets dX0_put_82 rfl
theorem eX0_put_85 {v u : Value} : wX0_put B ad K 85 L (u :: v :: r) σ ↔ (x_rfv v ∧ x_rfv u ∧ (if v = u then wX0_put B ad K 88 L r σ else wX0_put B ad K 145 L r σ)) := (xr_acmp_ne dX0_put_85 (by decide)).trans (and_congr_right fun _ => and_congr_right fun _ => x_ite)
theorem eX0_put_88 : wX0_put B ad K 88 L r σ ↔ ∃ v, L[0]? = some v ∧ x_rfv v ∧ wX0_put B ad K 89 L (v :: r) σ := xr_aload_n dX0_put_88
theorem eX0_put_89 {a : Nat} : wX0_put B ad K 89 L (.ref a :: r) σ ↔ ∃ fs v, σ.1 a = some (1, fs) ∧ fs[6]? = some v ∧ wX0_put B ad K 92 L (v :: r) σ := xr_getfield (t := 1) (j := 6) dX0_put_89 rfl
theorem eX0_put_92 : wX0_put B ad K 92 L r σ ↔ ∃ v, L[1]? = some v ∧ x_rfv v ∧ wX0_put B ad K 93 L (v :: r) σ := xr_aload_n dX0_put_92
theorem eX0_put_93 {a : Nat} : wX0_put B ad K 93 L (.ref a :: r) σ ↔ ∃ fs v, σ.1 a = some (3, fs) ∧ fs[2]? = some v ∧ wX0_put B ad K 96 L (v :: r) σ := xr_getfield (t := 3) (j := 2) dX0_put_93 rfl
theorem eX0_put_96 {x : Int32} : wX0_put B ad K 96 L (.int x :: r) σ ↔ wX0_put B ad K 97 L (.long x.toInt64 :: r) σ := xr_i2l dX0_put_96
theorem eX0_put_97 : wX0_put B ad K 97 L r σ ↔ wX0_put B ad K 98 L (.long 0 :: r) σ := xr_lconst dX0_put_97 (by decide)
theorem eX0_put_98 : wX0_put B ad K 98 L r σ ↔ ∃ v, L[0]? = some v ∧ x_rfv v ∧ wX0_put B ad K 99 L (v :: r) σ := xr_aload_n dX0_put_98
theorem eX0_put_99 {a : Nat} : wX0_put B ad K 99 L (.ref a :: r) σ ↔ ∃ fs v, σ.1 a = some (1, fs) ∧ fs[4]? = some v ∧ wX0_put B ad K 102 L (v :: r) σ := xr_getfield (t := 1) (j := 4) dX0_put_99 rfl
theorem eX0_put_102 {v0 v1 v2 v3 : Value} : wX0_put B ad K 102 L (v3 :: v2 :: v1 :: v0 :: r) σ ↔ ((r.map fun v => v.category).sum ≤ 8 ∧ x_cl (x_v 5 (eX5_grow B ad)) [v0, v1, v2, v3] σ (fun v g => wX0_put B ad K 105 L (v.toList ++ r) g)) := xr_callV [v0, v1, v2, v3] r dX0_put_102 rfl
theorem eX0_put_105 : wX0_put B ad K 105 L r σ ↔ ∃ v, L[0]? = some v ∧ x_rfv v ∧ wX0_put B ad K 106 L (v :: r) σ := xr_aload_n dX0_put_105
theorem eX0_put_106 {a : Nat} : wX0_put B ad K 106 L (.ref a :: r) σ ↔ ∃ fs v, σ.1 a = some (1, fs) ∧ fs[6]? = some v ∧ wX0_put B ad K 109 L (v :: r) σ := xr_getfield (t := 1) (j := 6) dX0_put_106 rfl
theorem eX0_put_109 {a : Nat} : wX0_put B ad K 109 L (.ref a :: r) σ ↔ ∃ fs v, σ.1 a = some (5, fs) ∧ fs[4]? = some v ∧ wX0_put B ad K 112 L (v :: r) σ := xr_getfield (t := 5) (j := 4) dX0_put_109 rfl
theorem eX0_put_112 : wX0_put B ad K 112 L r σ ↔ ∃ v, L[1]? = some v ∧ x_rfv v ∧ wX0_put B ad K 113 L (v :: r) σ := xr_aload_n dX0_put_112
theorem eX0_put_113 {a : Nat} : wX0_put B ad K 113 L (.ref a :: r) σ ↔ ∃ fs v, σ.1 a = some (3, fs) ∧ fs[5]? = some v ∧ wX0_put B ad K 116 L (v :: r) σ := xr_getfield (t := 3) (j := 5) dX0_put_113 rfl
theorem eX0_put_116 {x : Int32} {b : Nat} : wX0_put B ad K 116 L (.int x :: .ref b :: r) σ ↔ wX0_put B ad K 117 L (.int x :: .ref b :: .int x :: .ref b :: r) σ := xr_dup2_ia dX0_put_116
theorem eX0_put_117 {a : Nat} {x : Int32} : wX0_put B ad K 117 L (.int x :: .ref a :: r) σ ↔ ∃ V v, σ.1 a = some (101, V) ∧ x_ix x V = some v ∧ wX0_put B ad K 118 L (v :: r) σ := xr_laload dX0_put_117
theorem eX0_put_118 : wX0_put B ad K 118 L r σ ↔ ∃ v, L[1]? = some v ∧ x_rfv v ∧ wX0_put B ad K 119 L (v :: r) σ := xr_aload_n dX0_put_118
theorem eX0_put_119 {a : Nat} : wX0_put B ad K 119 L (.ref a :: r) σ ↔ ∃ fs v, σ.1 a = some (3, fs) ∧ fs[4]? = some v ∧ wX0_put B ad K 122 L (v :: r) σ := xr_getfield (t := 3) (j := 4) dX0_put_119 rfl
theorem eX0_put_122 {x : Int32} : wX0_put B ad K 122 L (.int x :: r) σ ↔ wX0_put B ad K 123 L (.long x.toInt64 :: r) σ := xr_i2l dX0_put_122
theorem eX0_put_123 {x y : Int64} : wX0_put B ad K 123 L (.long y :: .long x :: r) σ ↔ wX0_put B ad K 124 L (.long (x + y) :: r) σ := xr_ladd dX0_put_123
theorem eX0_put_124 {a : Nat} {j : Int32} {x : Int64} : wX0_put B ad K 124 L (.long x :: .int j :: .ref a :: r) σ ↔ ∃ V, σ.1 a = some (101, V) ∧ (x_ix j V).isSome ∧ B ≤ a ∧ wX0_put B ad K 125 L r (x_up σ.1 a (101, V.set j.toInt.toNat (.long x)), σ.2) := xr_lastore dX0_put_124
theorem eX0_put_125 : wX0_put B ad K 125 L r σ ↔ ∃ v, L[0]? = some v ∧ x_rfv v ∧ wX0_put B ad K 126 L (v :: r) σ := xr_aload_n dX0_put_125
theorem eX0_put_126 {a : Nat} : wX0_put B ad K 126 L (.ref a :: r) σ ↔ ∃ fs v, σ.1 a = some (1, fs) ∧ fs[6]? = some v ∧ wX0_put B ad K 129 L (v :: r) σ := xr_getfield (t := 1) (j := 6) dX0_put_126 rfl
theorem eX0_put_129 {v : Value} : wX0_put B ad K 129 L (v :: r) σ ↔ (v.category = 1 ∧ wX0_put B ad K 130 L (v :: v :: r) σ) := xr_dup dX0_put_129
theorem eX0_put_130 {a : Nat} : wX0_put B ad K 130 L (.ref a :: r) σ ↔ ∃ fs v, σ.1 a = some (5, fs) ∧ fs[3]? = some v ∧ wX0_put B ad K 133 L (v :: r) σ := xr_getfield (t := 5) (j := 3) dX0_put_130 rfl
theorem eX0_put_133 : wX0_put B ad K 133 L r σ ↔ ∃ v, L[1]? = some v ∧ x_rfv v ∧ wX0_put B ad K 134 L (v :: r) σ := xr_aload_n dX0_put_133
theorem eX0_put_134 {a : Nat} : wX0_put B ad K 134 L (.ref a :: r) σ ↔ ∃ fs v, σ.1 a = some (3, fs) ∧ fs[6]? = some v ∧ wX0_put B ad K 137 L (v :: r) σ := xr_getfield (t := 3) (j := 6) dX0_put_134 rfl
theorem eX0_put_137 {x : Int32} : wX0_put B ad K 137 L (.int x :: r) σ ↔ wX0_put B ad K 138 L (.long x.toInt64 :: r) σ := xr_i2l dX0_put_137
theorem eX0_put_138 {x y : Int64} : wX0_put B ad K 138 L (.long y :: .long x :: r) σ ↔ wX0_put B ad K 139 L (.long (x + y) :: r) σ := xr_ladd dX0_put_138
theorem eX0_put_139 {x : Int64} {a : Nat} : wX0_put B ad K 139 L (.long x :: .ref a :: r) σ ↔ ∃ fs, σ.1 a = some (5, fs) ∧ 3 < fs.length ∧ B ≤ a ∧ wX0_put B ad K 142 L r (x_up σ.1 a (5, fs.set 3 (.long x)), σ.2) := xr_put_l (t := 5) (j := 3) dX0_put_139 rfl (by decide)
theorem eX0_put_142 : wX0_put B ad K 142 L r σ ↔ wX0_put B ad K 172 L r σ := xr_goto dX0_put_142 (by decide)
theorem eX0_put_145 : wX0_put B ad K 145 L r σ ↔ ∃ v, L[1]? = some v ∧ x_rfv v ∧ wX0_put B ad K 146 L (v :: r) σ := xr_aload_n dX0_put_145
theorem eX0_put_146 {a : Nat} : wX0_put B ad K 146 L (.ref a :: r) σ ↔ ∃ fs v, σ.1 a = some (3, fs) ∧ fs[1]? = some v ∧ wX0_put B ad K 149 L (v :: r) σ := xr_getfield (t := 3) (j := 1) dX0_put_146 rfl
theorem eX0_put_149 : wX0_put B ad K 149 L r σ ↔ wX0_put B ad K 152 L (.ref (ad 2) :: r) σ := xr_gets dX0_put_149 rfl
theorem eX0_put_152 {v u : Value} : wX0_put B ad K 152 L (u :: v :: r) σ ↔ (x_rfv v ∧ x_rfv u ∧ (if v = u then wX0_put B ad K 155 L r σ else wX0_put B ad K 172 L r σ)) := (xr_acmp_ne dX0_put_152 (by decide)).trans (and_congr_right fun _ => and_congr_right fun _ => x_ite)
theorem eX0_put_155 : wX0_put B ad K 155 L r σ ↔ ∃ v, L[0]? = some v ∧ x_rfv v ∧ wX0_put B ad K 156 L (v :: r) σ := xr_aload_n dX0_put_155
theorem eX0_put_156 {a : Nat} : wX0_put B ad K 156 L (.ref a :: r) σ ↔ ∃ fs v, σ.1 a = some (1, fs) ∧ fs[6]? = some v ∧ wX0_put B ad K 159 L (v :: r) σ := xr_getfield (t := 1) (j := 6) dX0_put_156 rfl
theorem eX0_put_159 : wX0_put B ad K 159 L r σ ↔ ∃ v, L[1]? = some v ∧ x_rfv v ∧ wX0_put B ad K 160 L (v :: r) σ := xr_aload_n dX0_put_159
theorem eX0_put_160 {a : Nat} : wX0_put B ad K 160 L (.ref a :: r) σ ↔ ∃ fs v, σ.1 a = some (3, fs) ∧ fs[2]? = some v ∧ wX0_put B ad K 163 L (v :: r) σ := xr_getfield (t := 3) (j := 2) dX0_put_160 rfl
theorem eX0_put_163 {x : Int32} : wX0_put B ad K 163 L (.int x :: r) σ ↔ wX0_put B ad K 164 L (.long x.toInt64 :: r) σ := xr_i2l dX0_put_163
theorem eX0_put_164 : wX0_put B ad K 164 L r σ ↔ wX0_put B ad K 165 L (.long 0 :: r) σ := xr_lconst dX0_put_164 (by decide)
theorem eX0_put_165 : wX0_put B ad K 165 L r σ ↔ ∃ v, L[0]? = some v ∧ x_rfv v ∧ wX0_put B ad K 166 L (v :: r) σ := xr_aload_n dX0_put_165
theorem eX0_put_166 {a : Nat} : wX0_put B ad K 166 L (.ref a :: r) σ ↔ ∃ fs v, σ.1 a = some (1, fs) ∧ fs[4]? = some v ∧ wX0_put B ad K 169 L (v :: r) σ := xr_getfield (t := 1) (j := 4) dX0_put_166 rfl
theorem eX0_put_169 {v0 v1 v2 v3 : Value} : wX0_put B ad K 169 L (v3 :: v2 :: v1 :: v0 :: r) σ ↔ ((r.map fun v => v.category).sum ≤ 8 ∧ x_cl (x_v 5 (eX5_grow B ad)) [v0, v1, v2, v3] σ (fun v g => wX0_put B ad K 172 L (v.toList ++ r) g)) := xr_callV [v0, v1, v2, v3] r dX0_put_169 rfl
theorem eX0_put_172 : wX0_put B ad K 172 L [] σ ↔ K none σ := xr_return dX0_put_172
end
abbrev wX1_init (B : Nat) (ad : Nat → Nat) (K : xK) : Nat → List Value → List Value → xW → Prop := x_WP B none (cxX1_init B ad) cX1_init K
section
variable {B : Nat} {ad : Nat → Nat} {K : xK} {L r : List Value} {σ : xW}
theorem eX1_init_0 : wX1_init B ad K 0 L r σ ↔ ∃ v, L[0]? = some v ∧ x_rfv v ∧ wX1_init B ad K 1 L (v :: r) σ := xr_aload_n dX1_init_0
theorem eX1_init_1 {v0 : Value} : wX1_init B ad K 1 L (v0 :: r) σ ↔ ((r.map fun v => v.category).sum ≤ 8 ∧ x_cl (x_obj) [v0] σ (fun v g => wX1_init B ad K 4 L (v.toList ++ r) g)) := xr_callI [v0] r dX1_init_1 rfl
theorem eX1_init_4 : wX1_init B ad K 4 L r σ ↔ ∃ v, L[0]? = some v ∧ x_rfv v ∧ wX1_init B ad K 5 L (v :: r) σ := xr_aload_n dX1_init_4
theorem eX1_init_5 : wX1_init B ad K 5 L r σ ↔ ∃ v, L[1]? = some (.int v) ∧ wX1_init B ad K 6 L (.int v :: r) σ := xr_iload_n dX1_init_5
theorem eX1_init_6 {x : Int32} {a : Nat} : wX1_init B ad K 6 L (.int x :: .ref a :: r) σ ↔ ∃ fs, σ.1 a = some (2, fs) ∧ 0 < fs.length ∧ B ≤ a ∧ wX1_init B ad K 9 L r (x_up σ.1 a (2, fs.set 0 (.int x)), σ.2) := xr_put_i (t := 2) (j := 0) dX1_init_6 rfl (by decide)
theorem eX1_init_9 : wX1_init B ad K 9 L r σ ↔ ∃ v, L[0]? = some v ∧ x_rfv v ∧ wX1_init B ad K 10 L (v :: r) σ := xr_aload_n dX1_init_9
theorem eX1_init_10 : wX1_init B ad K 10 L r σ ↔ ∃ v, L[2]? = some (.int v) ∧ wX1_init B ad K 11 L (.int v :: r) σ := xr_iload_n dX1_init_10
theorem eX1_init_11 {x : Int32} {a : Nat} : wX1_init B ad K 11 L (.int x :: .ref a :: r) σ ↔ ∃ fs, σ.1 a = some (2, fs) ∧ 1 < fs.length ∧ B ≤ a ∧ wX1_init B ad K 14 L r (x_up σ.1 a (2, fs.set 1 (.int x)), σ.2) := xr_put_i (t := 2) (j := 1) dX1_init_11 rfl (by decide)
theorem eX1_init_14 : wX1_init B ad K 14 L r σ ↔ ∃ v, L[0]? = some v ∧ x_rfv v ∧ wX1_init B ad K 15 L (v :: r) σ := xr_aload_n dX1_init_14
theorem eX1_init_15 : wX1_init B ad K 15 L r σ ↔ ∃ v, L[3]? = some (.int v) ∧ wX1_init B ad K 16 L (.int v :: r) σ := xr_iload_n dX1_init_15
theorem eX1_init_16 {x : Int32} {a : Nat} : wX1_init B ad K 16 L (.int x :: .ref a :: r) σ ↔ ∃ fs, σ.1 a = some (2, fs) ∧ 2 < fs.length ∧ B ≤ a ∧ wX1_init B ad K 19 L r (x_up σ.1 a (2, fs.set 2 (.int x)), σ.2) := xr_put_i (t := 2) (j := 2) dX1_init_16 rfl (by decide)
theorem eX1_init_19 : wX1_init B ad K 19 L r σ ↔ ∃ v, L[0]? = some v ∧ x_rfv v ∧ wX1_init B ad K 20 L (v :: r) σ := xr_aload_n dX1_init_19
theorem eX1_init_20 : wX1_init B ad K 20 L r σ ↔ ∃ v, L[4]? = some (.int v) ∧ wX1_init B ad K 22 L (.int v :: r) σ := xr_iload dX1_init_20
theorem eX1_init_22 {x : Int32} {a : Nat} : wX1_init B ad K 22 L (.int x :: .ref a :: r) σ ↔ ∃ fs, σ.1 a = some (2, fs) ∧ 3 < fs.length ∧ B ≤ a ∧ wX1_init B ad K 25 L r (x_up σ.1 a (2, fs.set 3 (.int x)), σ.2) := xr_put_i (t := 2) (j := 3) dX1_init_22 rfl (by decide)
theorem eX1_init_25 : wX1_init B ad K 25 L r σ ↔ ∃ v, L[0]? = some v ∧ x_rfv v ∧ wX1_init B ad K 26 L (v :: r) σ := xr_aload_n dX1_init_25
theorem eX1_init_26 : wX1_init B ad K 26 L r σ ↔ ∃ v, L[5]? = some (.int v) ∧ wX1_init B ad K 28 L (.int v :: r) σ := xr_iload dX1_init_26
theorem eX1_init_28 {x : Int32} {a : Nat} : wX1_init B ad K 28 L (.int x :: .ref a :: r) σ ↔ ∃ fs, σ.1 a = some (2, fs) ∧ 4 < fs.length ∧ B ≤ a ∧ wX1_init B ad K 31 L r (x_up σ.1 a (2, fs.set 4 (.int x)), σ.2) := xr_put_i (t := 2) (j := 4) dX1_init_28 rfl (by decide)
theorem eX1_init_31 : wX1_init B ad K 31 L [] σ ↔ K none σ := xr_return dX1_init_31
end
abbrev wX2_init (B : Nat) (ad : Nat → Nat) (K : xK) : Nat → List Value → List Value → xW → Prop := x_WP B none (cxX2_init B ad) cX2_init K
section
variable {B : Nat} {ad : Nat → Nat} {K : xK} {L r : List Value} {σ : xW}
theorem eX2_init_0 : wX2_init B ad K 0 L r σ ↔ ∃ v, L[0]? = some v ∧ x_rfv v ∧ wX2_init B ad K 1 L (v :: r) σ := xr_aload_n dX2_init_0
theorem eX2_init_1 {v0 : Value} : wX2_init B ad K 1 L (v0 :: r) σ ↔ ((r.map fun v => v.category).sum ≤ 8 ∧ x_cl (x_obj) [v0] σ (fun v g => wX2_init B ad K 4 L (v.toList ++ r) g)) := xr_callI [v0] r dX2_init_1 rfl
theorem eX2_init_4 : wX2_init B ad K 4 L r σ ↔ ∃ v, L[0]? = some v ∧ x_rfv v ∧ wX2_init B ad K 5 L (v :: r) σ := xr_aload_n dX2_init_4
theorem eX2_init_5 : wX2_init B ad K 5 L r σ ↔ ∃ v, L[1]? = some (.int v) ∧ wX2_init B ad K 6 L (.int v :: r) σ := xr_iload_n dX2_init_5
theorem eX2_init_6 {x : Int32} {a : Nat} : wX2_init B ad K 6 L (.int x :: .ref a :: r) σ ↔ ∃ fs, σ.1 a = some (3, fs) ∧ 0 < fs.length ∧ B ≤ a ∧ wX2_init B ad K 9 L r (x_up σ.1 a (3, fs.set 0 (.int x)), σ.2) := xr_put_i (t := 3) (j := 0) dX2_init_6 rfl (by decide)
theorem eX2_init_9 : wX2_init B ad K 9 L r σ ↔ ∃ v, L[0]? = some v ∧ x_rfv v ∧ wX2_init B ad K 10 L (v :: r) σ := xr_aload_n dX2_init_9
theorem eX2_init_10 : wX2_init B ad K 10 L r σ ↔ ∃ v, L[2]? = some v ∧ x_rfv v ∧ wX2_init B ad K 11 L (v :: r) σ := xr_aload_n dX2_init_10
theorem eX2_init_11 {v : Value} {a : Nat} : wX2_init B ad K 11 L (v :: .ref a :: r) σ ↔ ∃ fs, σ.1 a = some (3, fs) ∧ 1 < fs.length ∧ B ≤ a ∧ x_rfv v ∧ wX2_init B ad K 14 L r (x_up σ.1 a (3, fs.set 1 (v)), σ.2) := xr_put_o (t := 3) (j := 1) dX2_init_11 rfl (by decide)
theorem eX2_init_14 : wX2_init B ad K 14 L r σ ↔ ∃ v, L[0]? = some v ∧ x_rfv v ∧ wX2_init B ad K 15 L (v :: r) σ := xr_aload_n dX2_init_14
theorem eX2_init_15 : wX2_init B ad K 15 L r σ ↔ ∃ v, L[3]? = some (.int v) ∧ wX2_init B ad K 16 L (.int v :: r) σ := xr_iload_n dX2_init_15
theorem eX2_init_16 {x : Int32} {a : Nat} : wX2_init B ad K 16 L (.int x :: .ref a :: r) σ ↔ ∃ fs, σ.1 a = some (3, fs) ∧ 2 < fs.length ∧ B ≤ a ∧ wX2_init B ad K 19 L r (x_up σ.1 a (3, fs.set 2 (.int x)), σ.2) := xr_put_i (t := 3) (j := 2) dX2_init_16 rfl (by decide)
theorem eX2_init_19 : wX2_init B ad K 19 L [] σ ↔ K none σ := xr_return dX2_init_19
end
abbrev wX2_price (B : Nat) (ad : Nat → Nat) (K : xK) : Nat → List Value → List Value → xW → Prop := x_WP B (some .int) (cxX2_price B ad) cX2_price K
section
variable {B : Nat} {ad : Nat → Nat} {K : xK} {L r : List Value} {σ : xW}
theorem eX2_price_0 : wX2_price B ad K 0 L r σ ↔ ∃ v, L[0]? = some v ∧ x_rfv v ∧ wX2_price B ad K 1 L (v :: r) σ := xr_aload_n dX2_price_0
theorem eX2_price_1 {a : Nat} : wX2_price B ad K 1 L (.ref a :: r) σ ↔ ∃ fs v, σ.1 a = some (3, fs) ∧ fs[1]? = some v ∧ wX2_price B ad K 4 L (v :: r) σ := xr_getfield (t := 3) (j := 1) dX2_price_1 rfl
theorem eX2_price_4 : wX2_price B ad K 4 L r σ ↔ wX2_price B ad K 7 L (.ref (ad 3) :: r) σ := xr_gets dX2_price_4 rfl
theorem eX2_price_7 {v u : Value} : wX2_price B ad K 7 L (u :: v :: r) σ ↔ (x_rfv v ∧ x_rfv u ∧ (if v = u then wX2_price B ad K 10 L r σ else wX2_price B ad K 17 L r σ)) := (xr_acmp_ne dX2_price_7 (by decide)).trans (and_congr_right fun _ => and_congr_right fun _ => x_ite)
theorem eX2_price_10 : wX2_price B ad K 10 L r σ ↔ ∃ v, L[0]? = some v ∧ x_rfv v ∧ wX2_price B ad K 11 L (v :: r) σ := xr_aload_n dX2_price_10
theorem eX2_price_11 {a : Nat} : wX2_price B ad K 11 L (.ref a :: r) σ ↔ ∃ fs v, σ.1 a = some (3, fs) ∧ fs[2]? = some v ∧ wX2_price B ad K 14 L (v :: r) σ := xr_getfield (t := 3) (j := 2) dX2_price_11 rfl
theorem eX2_price_14 : wX2_price B ad K 14 L r σ ↔ wX2_price B ad K 18 L r σ := xr_goto dX2_price_14 (by decide)
theorem eX2_price_17 : wX2_price B ad K 17 L r σ ↔ wX2_price B ad K 18 L (.int 0 :: r) σ := xr_iconst dX2_price_17 (by decide)
theorem eX2_price_18 {x : Int32} : wX2_price B ad K 18 L [.int x] σ ↔ K (some (.int x)) σ := xr_ireturn dX2_price_18
end
abbrev wX2_startTally (B : Nat) (ad : Nat → Nat) (K : xK) : Nat → List Value → List Value → xW → Prop := x_WP B none (cxX2_startTally B ad) cX2_startTally K
section
variable {B : Nat} {ad : Nat → Nat} {K : xK} {L r : List Value} {σ : xW}
theorem eX2_startTally_0 : wX2_startTally B ad K 0 L r σ ↔ ∃ v, L[0]? = some v ∧ x_rfv v ∧ wX2_startTally B ad K 1 L (v :: r) σ := xr_aload_n dX2_startTally_0
theorem eX2_startTally_1 : wX2_startTally B ad K 1 L r σ ↔ ∃ v, L[0]? = some v ∧ x_rfv v ∧ wX2_startTally B ad K 2 L (v :: r) σ := xr_aload_n dX2_startTally_1
theorem eX2_startTally_2 {a : Nat} : wX2_startTally B ad K 2 L (.ref a :: r) σ ↔ ∃ fs v, σ.1 a = some (3, fs) ∧ fs[10]? = some v ∧ wX2_startTally B ad K 5 L (v :: r) σ := xr_getfield (t := 3) (j := 10) dX2_startTally_2 rfl
theorem eX2_startTally_5 {x : Int32} : wX2_startTally B ad K 5 L (.int x :: r) σ ↔ (if x = 0 then wX2_startTally B ad K 12 L r σ else wX2_startTally B ad K 8 L r σ) := (xr_if_eq dX2_startTally_5 (by decide)).trans x_ite
theorem eX2_startTally_8 : wX2_startTally B ad K 8 L r σ ↔ wX2_startTally B ad K 9 L (.int 1 :: r) σ := xr_iconst dX2_startTally_8 (by decide)
theorem eX2_startTally_9 : wX2_startTally B ad K 9 L r σ ↔ wX2_startTally B ad K 13 L r σ := xr_goto dX2_startTally_9 (by decide)
theorem eX2_startTally_12 : wX2_startTally B ad K 12 L r σ ↔ wX2_startTally B ad K 13 L (.int 0 :: r) σ := xr_iconst dX2_startTally_12 (by decide)
theorem eX2_startTally_13 {x : Int32} {a : Nat} : wX2_startTally B ad K 13 L (.int x :: .ref a :: r) σ ↔ ∃ fs, σ.1 a = some (3, fs) ∧ 11 < fs.length ∧ B ≤ a ∧ wX2_startTally B ad K 16 L r (x_up σ.1 a (3, fs.set 11 (.int x)), σ.2) := xr_put_i (t := 3) (j := 11) dX2_startTally_13 rfl (by decide)
theorem eX2_startTally_16 : wX2_startTally B ad K 16 L r σ ↔ ∃ v, L[0]? = some v ∧ x_rfv v ∧ wX2_startTally B ad K 17 L (v :: r) σ := xr_aload_n dX2_startTally_16
theorem eX2_startTally_17 : wX2_startTally B ad K 17 L r σ ↔ wX2_startTally B ad K 18 L (.long 0 :: r) σ := xr_lconst dX2_startTally_17 (by decide)
theorem eX2_startTally_18 {x : Int64} {a : Nat} : wX2_startTally B ad K 18 L (.long x :: .ref a :: r) σ ↔ ∃ fs, σ.1 a = some (3, fs) ∧ 12 < fs.length ∧ B ≤ a ∧ wX2_startTally B ad K 21 L r (x_up σ.1 a (3, fs.set 12 (.long x)), σ.2) := xr_put_l (t := 3) (j := 12) dX2_startTally_18 rfl (by decide)
theorem eX2_startTally_21 : wX2_startTally B ad K 21 L [] σ ↔ K none σ := xr_return dX2_startTally_21
end
abbrev wX2_tallyOnPage (B : Nat) (ad : Nat → Nat) (K : xK) : Nat → List Value → List Value → xW → Prop := x_WP B none (cxX2_tallyOnPage B ad) cX2_tallyOnPage K
section
variable {B : Nat} {ad : Nat → Nat} {K : xK} {L r : List Value} {σ : xW}
theorem eX2_tallyOnPage_0 : wX2_tallyOnPage B ad K 0 L r σ ↔ ∃ v, L[0]? = some v ∧ x_rfv v ∧ wX2_tallyOnPage B ad K 1 L (v :: r) σ := xr_aload_n dX2_tallyOnPage_0
theorem eX2_tallyOnPage_1 {a : Nat} : wX2_tallyOnPage B ad K 1 L (.ref a :: r) σ ↔ ∃ fs v, σ.1 a = some (3, fs) ∧ fs[1]? = some v ∧ wX2_tallyOnPage B ad K 4 L (v :: r) σ := xr_getfield (t := 3) (j := 1) dX2_tallyOnPage_1 rfl
theorem eX2_tallyOnPage_4 : wX2_tallyOnPage B ad K 4 L r σ ↔ wX2_tallyOnPage B ad K 7 L (.ref (ad 4) :: r) σ := xr_gets dX2_tallyOnPage_4 rfl
theorem eX2_tallyOnPage_7 {v u : Value} : wX2_tallyOnPage B ad K 7 L (u :: v :: r) σ ↔ (x_rfv v ∧ x_rfv u ∧ (if v = u then wX2_tallyOnPage B ad K 10 L r σ else wX2_tallyOnPage B ad K 24 L r σ)) := (xr_acmp_ne dX2_tallyOnPage_7 (by decide)).trans (and_congr_right fun _ => and_congr_right fun _ => x_ite)
theorem eX2_tallyOnPage_10 : wX2_tallyOnPage B ad K 10 L r σ ↔ ∃ v, L[0]? = some v ∧ x_rfv v ∧ wX2_tallyOnPage B ad K 11 L (v :: r) σ := xr_aload_n dX2_tallyOnPage_10
theorem eX2_tallyOnPage_11 {v : Value} : wX2_tallyOnPage B ad K 11 L (v :: r) σ ↔ (v.category = 1 ∧ wX2_tallyOnPage B ad K 12 L (v :: v :: r) σ) := xr_dup dX2_tallyOnPage_11
theorem eX2_tallyOnPage_12 {a : Nat} : wX2_tallyOnPage B ad K 12 L (.ref a :: r) σ ↔ ∃ fs v, σ.1 a = some (3, fs) ∧ fs[12]? = some v ∧ wX2_tallyOnPage B ad K 15 L (v :: r) σ := xr_getfield (t := 3) (j := 12) dX2_tallyOnPage_12 rfl
theorem eX2_tallyOnPage_15 : wX2_tallyOnPage B ad K 15 L r σ ↔ ∃ v, L[1]? = some (.int v) ∧ wX2_tallyOnPage B ad K 16 L (.int v :: r) σ := xr_iload_n dX2_tallyOnPage_15
theorem eX2_tallyOnPage_16 {x : Int32} : wX2_tallyOnPage B ad K 16 L (.int x :: r) σ ↔ wX2_tallyOnPage B ad K 17 L (.long x.toInt64 :: r) σ := xr_i2l dX2_tallyOnPage_16
theorem eX2_tallyOnPage_17 {x y : Int64} : wX2_tallyOnPage B ad K 17 L (.long y :: .long x :: r) σ ↔ wX2_tallyOnPage B ad K 18 L (.long (x + y) :: r) σ := xr_ladd dX2_tallyOnPage_17
theorem eX2_tallyOnPage_18 {x : Int64} {a : Nat} : wX2_tallyOnPage B ad K 18 L (.long x :: .ref a :: r) σ ↔ ∃ fs, σ.1 a = some (3, fs) ∧ 12 < fs.length ∧ B ≤ a ∧ wX2_tallyOnPage B ad K 21 L r (x_up σ.1 a (3, fs.set 12 (.long x)), σ.2) := xr_put_l (t := 3) (j := 12) dX2_tallyOnPage_18 rfl (by decide)
theorem eX2_tallyOnPage_21 : wX2_tallyOnPage B ad K 21 L r σ ↔ wX2_tallyOnPage B ad K 34 L r σ := xr_goto dX2_tallyOnPage_21 (by decide)
theorem eX2_tallyOnPage_24 : wX2_tallyOnPage B ad K 24 L r σ ↔ ∃ v, L[0]? = some v ∧ x_rfv v ∧ wX2_tallyOnPage B ad K 25 L (v :: r) σ := xr_aload_n dX2_tallyOnPage_24
theorem eX2_tallyOnPage_25 {v : Value} : wX2_tallyOnPage B ad K 25 L (v :: r) σ ↔ (v.category = 1 ∧ wX2_tallyOnPage B ad K 26 L (v :: v :: r) σ) := xr_dup dX2_tallyOnPage_25
theorem eX2_tallyOnPage_26 {a : Nat} : wX2_tallyOnPage B ad K 26 L (.ref a :: r) σ ↔ ∃ fs v, σ.1 a = some (3, fs) ∧ fs[11]? = some v ∧ wX2_tallyOnPage B ad K 29 L (v :: r) σ := xr_getfield (t := 3) (j := 11) dX2_tallyOnPage_26 rfl
theorem eX2_tallyOnPage_29 : wX2_tallyOnPage B ad K 29 L r σ ↔ wX2_tallyOnPage B ad K 30 L (.int 1 :: r) σ := xr_iconst dX2_tallyOnPage_29 (by decide)
theorem eX2_tallyOnPage_30 {x y : Int32} : wX2_tallyOnPage B ad K 30 L (.int y :: .int x :: r) σ ↔ wX2_tallyOnPage B ad K 31 L (.int (x + y) :: r) σ := xr_iadd dX2_tallyOnPage_30
theorem eX2_tallyOnPage_31 {x : Int32} {a : Nat} : wX2_tallyOnPage B ad K 31 L (.int x :: .ref a :: r) σ ↔ ∃ fs, σ.1 a = some (3, fs) ∧ 11 < fs.length ∧ B ≤ a ∧ wX2_tallyOnPage B ad K 34 L r (x_up σ.1 a (3, fs.set 11 (.int x)), σ.2) := xr_put_i (t := 3) (j := 11) dX2_tallyOnPage_31 rfl (by decide)
theorem eX2_tallyOnPage_34 : wX2_tallyOnPage B ad K 34 L [] σ ↔ K none σ := xr_return dX2_tallyOnPage_34
end
abbrev wX2_tallyIsRight (B : Nat) (ad : Nat → Nat) (K : xK) : Nat → List Value → List Value → xW → Prop := x_WP B (some .boolean) (cxX2_tallyIsRight B ad) cX2_tallyIsRight K
section
variable {B : Nat} {ad : Nat → Nat} {K : xK} {L r : List Value} {σ : xW}
theorem eX2_tallyIsRight_0 : wX2_tallyIsRight B ad K 0 L r σ ↔ ∃ v, L[0]? = some v ∧ x_rfv v ∧ wX2_tallyIsRight B ad K 1 L (v :: r) σ := xr_aload_n dX2_tallyIsRight_0
theorem eX2_tallyIsRight_1 {a : Nat} : wX2_tallyIsRight B ad K 1 L (.ref a :: r) σ ↔ ∃ fs v, σ.1 a = some (3, fs) ∧ fs[1]? = some v ∧ wX2_tallyIsRight B ad K 4 L (v :: r) σ := xr_getfield (t := 3) (j := 1) dX2_tallyIsRight_1 rfl
theorem eX2_tallyIsRight_4 : wX2_tallyIsRight B ad K 4 L r σ ↔ wX2_tallyIsRight B ad K 7 L (.ref (ad 4) :: r) σ := xr_gets dX2_tallyIsRight_4 rfl
theorem eX2_tallyIsRight_7 {v u : Value} : wX2_tallyIsRight B ad K 7 L (u :: v :: r) σ ↔ (x_rfv v ∧ x_rfv u ∧ (if v = u then wX2_tallyIsRight B ad K 24 L r σ else wX2_tallyIsRight B ad K 10 L r σ)) := (xr_acmp_eq dX2_tallyIsRight_7 (by decide)).trans (and_congr_right fun _ => and_congr_right fun _ => x_ite)
theorem eX2_tallyIsRight_10 : wX2_tallyIsRight B ad K 10 L r σ ↔ ∃ v, L[0]? = some v ∧ x_rfv v ∧ wX2_tallyIsRight B ad K 11 L (v :: r) σ := xr_aload_n dX2_tallyIsRight_10
theorem eX2_tallyIsRight_11 {a : Nat} : wX2_tallyIsRight B ad K 11 L (.ref a :: r) σ ↔ ∃ fs v, σ.1 a = some (3, fs) ∧ fs[11]? = some v ∧ wX2_tallyIsRight B ad K 14 L (v :: r) σ := xr_getfield (t := 3) (j := 11) dX2_tallyIsRight_11 rfl
theorem eX2_tallyIsRight_14 : wX2_tallyIsRight B ad K 14 L r σ ↔ wX2_tallyIsRight B ad K 15 L (.int 1 :: r) σ := xr_iconst dX2_tallyIsRight_14 (by decide)
theorem eX2_tallyIsRight_15 {x y : Int32} : wX2_tallyIsRight B ad K 15 L (.int y :: .int x :: r) σ ↔ (if x = y then wX2_tallyIsRight B ad K 18 L r σ else wX2_tallyIsRight B ad K 22 L r σ) := (xr_icmp_ne dX2_tallyIsRight_15 (by decide)).trans x_ite
theorem eX2_tallyIsRight_18 : wX2_tallyIsRight B ad K 18 L r σ ↔ wX2_tallyIsRight B ad K 19 L (.int 1 :: r) σ := xr_iconst dX2_tallyIsRight_18 (by decide)
theorem eX2_tallyIsRight_19 : wX2_tallyIsRight B ad K 19 L r σ ↔ wX2_tallyIsRight B ad K 23 L r σ := xr_goto dX2_tallyIsRight_19 (by decide)
theorem eX2_tallyIsRight_22 : wX2_tallyIsRight B ad K 22 L r σ ↔ wX2_tallyIsRight B ad K 23 L (.int 0 :: r) σ := xr_iconst dX2_tallyIsRight_22 (by decide)
theorem eX2_tallyIsRight_23 {x : Int32} : wX2_tallyIsRight B ad K 23 L [.int x] σ ↔ ((x = 0 ∨ x = 1) ∧ K (some (.int x)) σ) := xr_zreturn dX2_tallyIsRight_23
theorem eX2_tallyIsRight_24 : wX2_tallyIsRight B ad K 24 L r σ ↔ ∃ v, L[0]? = some v ∧ x_rfv v ∧ wX2_tallyIsRight B ad K 25 L (v :: r) σ := xr_aload_n dX2_tallyIsRight_24
theorem eX2_tallyIsRight_25 {a : Nat} : wX2_tallyIsRight B ad K 25 L (.ref a :: r) σ ↔ ∃ fs v, σ.1 a = some (3, fs) ∧ fs[11]? = some v ∧ wX2_tallyIsRight B ad K 28 L (v :: r) σ := xr_getfield (t := 3) (j := 11) dX2_tallyIsRight_25 rfl
theorem eX2_tallyIsRight_28 : wX2_tallyIsRight B ad K 28 L r σ ↔ ∃ v, L[0]? = some v ∧ x_rfv v ∧ wX2_tallyIsRight B ad K 29 L (v :: r) σ := xr_aload_n dX2_tallyIsRight_28
theorem eX2_tallyIsRight_29 {a : Nat} : wX2_tallyIsRight B ad K 29 L (.ref a :: r) σ ↔ ∃ fs v, σ.1 a = some (3, fs) ∧ fs[9]? = some v ∧ wX2_tallyIsRight B ad K 32 L (v :: r) σ := xr_getfield (t := 3) (j := 9) dX2_tallyIsRight_29 rfl
theorem eX2_tallyIsRight_32 {x : Int32} : wX2_tallyIsRight B ad K 32 L (.int x :: r) σ ↔ (if 0 < x.toInt then wX2_tallyIsRight B ad K 35 L r σ else wX2_tallyIsRight B ad K 39 L r σ) := (xr_if_le dX2_tallyIsRight_32 (by decide)).trans x_ite
theorem eX2_tallyIsRight_35 : wX2_tallyIsRight B ad K 35 L r σ ↔ wX2_tallyIsRight B ad K 36 L (.int 1 :: r) σ := xr_iconst dX2_tallyIsRight_35 (by decide)
theorem eX2_tallyIsRight_36 : wX2_tallyIsRight B ad K 36 L r σ ↔ wX2_tallyIsRight B ad K 40 L r σ := xr_goto dX2_tallyIsRight_36 (by decide)
theorem eX2_tallyIsRight_39 : wX2_tallyIsRight B ad K 39 L r σ ↔ wX2_tallyIsRight B ad K 40 L (.int 0 :: r) σ := xr_iconst dX2_tallyIsRight_39 (by decide)
theorem eX2_tallyIsRight_40 {x y : Int32} : wX2_tallyIsRight B ad K 40 L (.int y :: .int x :: r) σ ↔ (if x = y then wX2_tallyIsRight B ad K 43 L r σ else wX2_tallyIsRight B ad K 66 L r σ) := (xr_icmp_ne dX2_tallyIsRight_40 (by decide)).trans x_ite
theorem eX2_tallyIsRight_43 : wX2_tallyIsRight B ad K 43 L r σ ↔ ∃ v, L[0]? = some v ∧ x_rfv v ∧ wX2_tallyIsRight B ad K 44 L (v :: r) σ := xr_aload_n dX2_tallyIsRight_43
theorem eX2_tallyIsRight_44 {a : Nat} : wX2_tallyIsRight B ad K 44 L (.ref a :: r) σ ↔ ∃ fs v, σ.1 a = some (3, fs) ∧ fs[12]? = some v ∧ wX2_tallyIsRight B ad K 47 L (v :: r) σ := xr_getfield (t := 3) (j := 12) dX2_tallyIsRight_44 rfl
theorem eX2_tallyIsRight_47 : wX2_tallyIsRight B ad K 47 L r σ ↔ ∃ v, L[0]? = some v ∧ x_rfv v ∧ wX2_tallyIsRight B ad K 48 L (v :: r) σ := xr_aload_n dX2_tallyIsRight_47
theorem eX2_tallyIsRight_48 {a : Nat} : wX2_tallyIsRight B ad K 48 L (.ref a :: r) σ ↔ ∃ fs v, σ.1 a = some (3, fs) ∧ fs[9]? = some v ∧ wX2_tallyIsRight B ad K 51 L (v :: r) σ := xr_getfield (t := 3) (j := 9) dX2_tallyIsRight_48 rfl
theorem eX2_tallyIsRight_51 {x : Int32} : wX2_tallyIsRight B ad K 51 L (.int x :: r) σ ↔ wX2_tallyIsRight B ad K 52 L (.long x.toInt64 :: r) σ := xr_i2l dX2_tallyIsRight_51
theorem eX2_tallyIsRight_52 {x y : Int64} : wX2_tallyIsRight B ad K 52 L (.long y :: .long x :: r) σ ↔ wX2_tallyIsRight B ad K 53 L (.long (x + y) :: r) σ := xr_ladd dX2_tallyIsRight_52
theorem eX2_tallyIsRight_53 : wX2_tallyIsRight B ad K 53 L r σ ↔ ∃ v, L[0]? = some v ∧ x_rfv v ∧ wX2_tallyIsRight B ad K 54 L (v :: r) σ := xr_aload_n dX2_tallyIsRight_53
theorem eX2_tallyIsRight_54 {a : Nat} : wX2_tallyIsRight B ad K 54 L (.ref a :: r) σ ↔ ∃ fs v, σ.1 a = some (3, fs) ∧ fs[2]? = some v ∧ wX2_tallyIsRight B ad K 57 L (v :: r) σ := xr_getfield (t := 3) (j := 2) dX2_tallyIsRight_54 rfl
theorem eX2_tallyIsRight_57 {x : Int32} : wX2_tallyIsRight B ad K 57 L (.int x :: r) σ ↔ wX2_tallyIsRight B ad K 58 L (.long x.toInt64 :: r) σ := xr_i2l dX2_tallyIsRight_57
theorem eX2_tallyIsRight_58 {x y : Int64} : wX2_tallyIsRight B ad K 58 L (.long y :: .long x :: r) σ ↔ wX2_tallyIsRight B ad K 59 L (.int (lg_cmp x y) :: r) σ := xr_lcmp dX2_tallyIsRight_58
theorem eX2_tallyIsRight_59 {x : Int32} : wX2_tallyIsRight B ad K 59 L (.int x :: r) σ ↔ (if x = 0 then wX2_tallyIsRight B ad K 62 L r σ else wX2_tallyIsRight B ad K 66 L r σ) := (xr_if_ne dX2_tallyIsRight_59 (by decide)).trans x_ite
theorem eX2_tallyIsRight_62 : wX2_tallyIsRight B ad K 62 L r σ ↔ wX2_tallyIsRight B ad K 63 L (.int 1 :: r) σ := xr_iconst dX2_tallyIsRight_62 (by decide)
theorem eX2_tallyIsRight_63 : wX2_tallyIsRight B ad K 63 L r σ ↔ wX2_tallyIsRight B ad K 67 L r σ := xr_goto dX2_tallyIsRight_63 (by decide)
theorem eX2_tallyIsRight_66 : wX2_tallyIsRight B ad K 66 L r σ ↔ wX2_tallyIsRight B ad K 67 L (.int 0 :: r) σ := xr_iconst dX2_tallyIsRight_66 (by decide)
theorem eX2_tallyIsRight_67 {x : Int32} : wX2_tallyIsRight B ad K 67 L [.int x] σ ↔ ((x = 0 ∨ x = 1) ∧ K (some (.int x)) σ) := xr_zreturn dX2_tallyIsRight_67
end
