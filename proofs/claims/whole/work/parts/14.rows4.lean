abbrev wX8_run (B : Nat) (ad : Nat → Nat) (K : xK) : Nat → List Value → List Value → xW → Prop := x_WP B (some .int) (cxX8_run B ad) cX8_run K
section
variable {B : Nat} {ad : Nat → Nat} {K : xK} {L r : List Value} {σ : xW}
theorem eX8_run_0 : wX8_run B ad K 0 L r σ ↔ ∃ v, L[0]? = some v ∧ x_rfv v ∧ wX8_run B ad K 1 L (v :: r) σ := xr_aload_n dX8_run_0
theorem eX8_run_1 : wX8_run B ad K 1 L r σ ↔ wX8_run B ad K 2 L (.int 0 :: r) σ := xr_iconst dX8_run_1 (by decide)
theorem eX8_run_2 {x : Int32} {a : Nat} : wX8_run B ad K 2 L (.int x :: .ref a :: r) σ ↔ ∃ fs, σ.1 a = some (8, fs) ∧ 0 < fs.length ∧ B ≤ a ∧ wX8_run B ad K 5 L r (x_up σ.1 a (8, fs.set 0 (.int x)), σ.2) := xr_put_i (t := 8) (j := 0) dX8_run_2 rfl (by decide)
theorem eX8_run_5 : wX8_run B ad K 5 L r σ ↔ ∃ v, L[0]? = some v ∧ x_rfv v ∧ wX8_run B ad K 6 L (v :: r) σ := xr_aload_n dX8_run_5
theorem eX8_run_6 {a : Nat} : wX8_run B ad K 6 L (.ref a :: r) σ ↔ ∃ fs v, σ.1 a = some (8, fs) ∧ fs[34]? = some v ∧ wX8_run B ad K 9 L (v :: r) σ := xr_getfield (t := 8) (j := 34) dX8_run_6 rfl
theorem eX8_run_9 {v : Int32} : wX8_run B ad K 9 L (.int v :: r) σ ↔ (1 < L.length ∧ x_nl L 1 ∧ wX8_run B ad K 10 (L.set 1 (.int v)) r σ) := xr_istore_n dX8_run_9
theorem eX8_run_10 : wX8_run B ad K 10 L r σ ↔ wX8_run B ad K 11 L (.int 1 :: r) σ := xr_iconst dX8_run_10 (by decide)
theorem eX8_run_11 {v : Int32} : wX8_run B ad K 11 L (.int v :: r) σ ↔ (2 < L.length ∧ x_nl L 2 ∧ wX8_run B ad K 12 (L.set 2 (.int v)) r σ) := xr_istore_n dX8_run_11
theorem eX8_run_12 : wX8_run B ad K 12 L r σ ↔ ∃ v, L[2]? = some (.int v) ∧ wX8_run B ad K 13 L (.int v :: r) σ := xr_iload_n dX8_run_12
theorem eX8_run_13 {x : Int32} : wX8_run B ad K 13 L (.int x :: r) σ ↔ (if x = 0 then wX8_run B ad K 114 L r σ else wX8_run B ad K 16 L r σ) := (xr_if_eq dX8_run_13 (by decide)).trans x_ite
theorem eX8_run_16 : wX8_run B ad K 16 L r σ ↔ ∃ v, L[0]? = some v ∧ x_rfv v ∧ wX8_run B ad K 17 L (v :: r) σ := xr_aload_n dX8_run_16
theorem eX8_run_17 {a : Nat} : wX8_run B ad K 17 L (.ref a :: r) σ ↔ ∃ fs v, σ.1 a = some (8, fs) ∧ fs[15]? = some v ∧ wX8_run B ad K 20 L (v :: r) σ := xr_getfield (t := 8) (j := 15) dX8_run_17 rfl
theorem eX8_run_20 {x : Int32} : wX8_run B ad K 20 L (.int x :: r) σ ↔ (if 0 < x.toInt then wX8_run B ad K 23 L r σ else wX8_run B ad K 114 L r σ) := (xr_if_le dX8_run_20 (by decide)).trans x_ite
theorem eX8_run_23 : wX8_run B ad K 23 L r σ ↔ ∃ v, L[0]? = some v ∧ x_rfv v ∧ wX8_run B ad K 24 L (v :: r) σ := xr_aload_n dX8_run_23
theorem eX8_run_24 {a : Nat} : wX8_run B ad K 24 L (.ref a :: r) σ ↔ ∃ fs v, σ.1 a = some (8, fs) ∧ fs[34]? = some v ∧ wX8_run B ad K 27 L (v :: r) σ := xr_getfield (t := 8) (j := 34) dX8_run_24 rfl
theorem eX8_run_27 : wX8_run B ad K 27 L r σ ↔ wX8_run B ad K 29 L (.int 60 :: r) σ := xr_bipush dX8_run_27 (by decide)
theorem eX8_run_29 {x y : Int32} : wX8_run B ad K 29 L (.int y :: .int x :: r) σ ↔ (if x.toInt < y.toInt then wX8_run B ad K 32 L r σ else wX8_run B ad K 114 L r σ) := (xr_icmp_ge dX8_run_29 (by decide)).trans x_ite
theorem eX8_run_32 : wX8_run B ad K 32 L r σ ↔ ∃ v, L[0]? = some v ∧ x_rfv v ∧ wX8_run B ad K 33 L (v :: r) σ := xr_aload_n dX8_run_32
theorem eX8_run_33 {a : Nat} : wX8_run B ad K 33 L (.ref a :: r) σ ↔ ∃ fs v, σ.1 a = some (8, fs) ∧ fs[2]? = some v ∧ wX8_run B ad K 36 L (v :: r) σ := xr_getfield (t := 8) (j := 2) dX8_run_33 rfl
theorem eX8_run_36 : wX8_run B ad K 36 L r σ ↔ ∃ v, L[0]? = some v ∧ x_rfv v ∧ wX8_run B ad K 37 L (v :: r) σ := xr_aload_n dX8_run_36
theorem eX8_run_37 {a : Nat} : wX8_run B ad K 37 L (.ref a :: r) σ ↔ ∃ fs v, σ.1 a = some (8, fs) ∧ fs[16]? = some v ∧ wX8_run B ad K 40 L (v :: r) σ := xr_getfield (t := 8) (j := 16) dX8_run_37 rfl
theorem eX8_run_40 : wX8_run B ad K 40 L r σ ↔ wX8_run B ad K 41 L (.int 0 :: r) σ := xr_iconst dX8_run_40 (by decide)
theorem eX8_run_41 {a : Nat} {x : Int32} : wX8_run B ad K 41 L (.int x :: .ref a :: r) σ ↔ ∃ t V v, σ.1 a = some (t, V) ∧ (t = 100 ∨ t = 106) ∧ x_ix x V = some v ∧ wX8_run B ad K 42 L (v :: r) σ := xr_iaload dX8_run_41
theorem eX8_run_42 {a : Nat} {x : Int32} : wX8_run B ad K 42 L (.int x :: .ref a :: r) σ ↔ ∃ t V v, σ.1 a = some (t, V) ∧ (t = 100 ∨ t = 106) ∧ x_ix x V = some v ∧ wX8_run B ad K 43 L (v :: r) σ := xr_iaload dX8_run_42
theorem eX8_run_43 {v : Int32} : wX8_run B ad K 43 L (.int v :: r) σ ↔ (3 < L.length ∧ x_nl L 3 ∧ wX8_run B ad K 44 (L.set 3 (.int v)) r σ) := xr_istore_n dX8_run_43
theorem eX8_run_44 : wX8_run B ad K 44 L r σ ↔ ∃ v, L[0]? = some v ∧ x_rfv v ∧ wX8_run B ad K 45 L (v :: r) σ := xr_aload_n dX8_run_44
theorem eX8_run_45 {a : Nat} : wX8_run B ad K 45 L (.ref a :: r) σ ↔ ∃ fs v, σ.1 a = some (8, fs) ∧ fs[23]? = some v ∧ wX8_run B ad K 48 L (v :: r) σ := xr_getfield (t := 8) (j := 23) dX8_run_45 rfl
theorem eX8_run_48 {x : Int32} : wX8_run B ad K 48 L (.int x :: r) σ ↔ (if x = 0 then wX8_run B ad K 51 L r σ else wX8_run B ad K 68 L r σ) := (xr_if_ne dX8_run_48 (by decide)).trans x_ite
theorem eX8_run_51 : wX8_run B ad K 51 L r σ ↔ ∃ v, L[3]? = some (.int v) ∧ wX8_run B ad K 52 L (.int v :: r) σ := xr_iload_n dX8_run_51
theorem eX8_run_52 : wX8_run B ad K 52 L r σ ↔ wX8_run B ad K 53 L (.int 1 :: r) σ := xr_iconst dX8_run_52 (by decide)
theorem eX8_run_53 {x y : Int32} : wX8_run B ad K 53 L (.int y :: .int x :: r) σ ↔ (if x.toInt < y.toInt then wX8_run B ad K 68 L r σ else wX8_run B ad K 56 L r σ) := (xr_icmp_lt dX8_run_53 (by decide)).trans x_ite
theorem eX8_run_56 : wX8_run B ad K 56 L r σ ↔ ∃ v, L[3]? = some (.int v) ∧ wX8_run B ad K 57 L (.int v :: r) σ := xr_iload_n dX8_run_56
theorem eX8_run_57 : wX8_run B ad K 57 L r σ ↔ wX8_run B ad K 58 L (.int 3 :: r) σ := xr_iconst dX8_run_57 (by decide)
theorem eX8_run_58 {x y : Int32} : wX8_run B ad K 58 L (.int y :: .int x :: r) σ ↔ (if y.toInt < x.toInt then wX8_run B ad K 68 L r σ else wX8_run B ad K 61 L r σ) := (xr_icmp_gt dX8_run_58 (by decide)).trans x_ite
theorem eX8_run_61 : wX8_run B ad K 61 L r σ ↔ ∃ v, L[0]? = some v ∧ x_rfv v ∧ wX8_run B ad K 62 L (v :: r) σ := xr_aload_n dX8_run_61
theorem eX8_run_62 {v0 : Value} : wX8_run B ad K 62 L (v0 :: r) σ ↔ ((r.map fun v => v.category).sum ≤ 8 ∧ x_cl (x_v 8 (eX8_takeFromLine B ad)) [v0] σ (fun v g => wX8_run B ad K 65 L (v.toList ++ r) g)) := xr_callV [v0] r dX8_run_62 rfl
theorem eX8_run_65 : wX8_run B ad K 65 L r σ ↔ wX8_run B ad K 111 L r σ := xr_goto dX8_run_65 (by decide)
theorem eX8_run_68 : wX8_run B ad K 68 L r σ ↔ ∃ v, L[3]? = some (.int v) ∧ wX8_run B ad K 69 L (.int v :: r) σ := xr_iload_n dX8_run_68
theorem eX8_run_69 : wX8_run B ad K 69 L r σ ↔ wX8_run B ad K 70 L (.int 2 :: r) σ := xr_iconst dX8_run_69 (by decide)
theorem eX8_run_70 {x y : Int32} : wX8_run B ad K 70 L (.int y :: .int x :: r) σ ↔ (if x = y then wX8_run B ad K 73 L r σ else wX8_run B ad K 86 L r σ) := (xr_icmp_ne dX8_run_70 (by decide)).trans x_ite
theorem eX8_run_73 : wX8_run B ad K 73 L r σ ↔ ∃ v, L[0]? = some v ∧ x_rfv v ∧ wX8_run B ad K 74 L (v :: r) σ := xr_aload_n dX8_run_73
theorem eX8_run_74 {a : Nat} : wX8_run B ad K 74 L (.ref a :: r) σ ↔ ∃ fs v, σ.1 a = some (8, fs) ∧ fs[15]? = some v ∧ wX8_run B ad K 77 L (v :: r) σ := xr_getfield (t := 8) (j := 15) dX8_run_74 rfl
theorem eX8_run_77 : wX8_run B ad K 77 L r σ ↔ wX8_run B ad K 78 L (.int 1 :: r) σ := xr_iconst dX8_run_77 (by decide)
theorem eX8_run_78 {x y : Int32} : wX8_run B ad K 78 L (.int y :: .int x :: r) σ ↔ (if x = y then wX8_run B ad K 81 L r σ else wX8_run B ad K 86 L r σ) := (xr_icmp_ne dX8_run_78 (by decide)).trans x_ite
theorem eX8_run_81 : wX8_run B ad K 81 L r σ ↔ wX8_run B ad K 82 L (.int 0 :: r) σ := xr_iconst dX8_run_81 (by decide)
theorem eX8_run_82 {v : Int32} : wX8_run B ad K 82 L (.int v :: r) σ ↔ (2 < L.length ∧ x_nl L 2 ∧ wX8_run B ad K 83 (L.set 2 (.int v)) r σ) := xr_istore_n dX8_run_82
theorem eX8_run_83 : wX8_run B ad K 83 L r σ ↔ wX8_run B ad K 111 L r σ := xr_goto dX8_run_83 (by decide)
theorem eX8_run_86 : wX8_run B ad K 86 L r σ ↔ ∃ v, L[0]? = some v ∧ x_rfv v ∧ wX8_run B ad K 87 L (v :: r) σ := xr_aload_n dX8_run_86
theorem eX8_run_87 {v0 : Value} : wX8_run B ad K 87 L (v0 :: r) σ ↔ ((r.map fun v => v.category).sum ≤ 8 ∧ x_cl (x_v 8 (eX8_isPlace B ad)) [v0] σ (fun v g => wX8_run B ad K 90 L (v.toList ++ r) g)) := xr_callV [v0] r dX8_run_87 rfl
theorem eX8_run_90 {x : Int32} : wX8_run B ad K 90 L (.int x :: r) σ ↔ (if x = 0 then wX8_run B ad K 107 L r σ else wX8_run B ad K 93 L r σ) := (xr_if_eq dX8_run_90 (by decide)).trans x_ite
theorem eX8_run_93 : wX8_run B ad K 93 L r σ ↔ ∃ v, L[0]? = some v ∧ x_rfv v ∧ wX8_run B ad K 94 L (v :: r) σ := xr_aload_n dX8_run_93
theorem eX8_run_94 {v0 : Value} : wX8_run B ad K 94 L (v0 :: r) σ ↔ ((r.map fun v => v.category).sum ≤ 8 ∧ x_cl (x_v 8 (eX8_ends B ad)) [v0] σ (fun v g => wX8_run B ad K 97 L (v.toList ++ r) g)) := xr_callV [v0] r dX8_run_94 rfl
theorem eX8_run_97 {x : Int32} : wX8_run B ad K 97 L (.int x :: r) σ ↔ (if x = 0 then wX8_run B ad K 107 L r σ else wX8_run B ad K 100 L r σ) := (xr_if_eq dX8_run_97 (by decide)).trans x_ite
theorem eX8_run_100 : wX8_run B ad K 100 L r σ ↔ ∃ v, L[0]? = some v ∧ x_rfv v ∧ wX8_run B ad K 101 L (v :: r) σ := xr_aload_n dX8_run_100
theorem eX8_run_101 {v0 : Value} : wX8_run B ad K 101 L (v0 :: r) σ ↔ ((r.map fun v => v.category).sum ≤ 8 ∧ x_cl (x_v 8 (eX8_end B ad)) [v0] σ (fun v g => wX8_run B ad K 104 L (v.toList ++ r) g)) := xr_callV [v0] r dX8_run_101 rfl
theorem eX8_run_104 : wX8_run B ad K 104 L r σ ↔ wX8_run B ad K 111 L r σ := xr_goto dX8_run_104 (by decide)
theorem eX8_run_107 : wX8_run B ad K 107 L r σ ↔ ∃ v, L[0]? = some v ∧ x_rfv v ∧ wX8_run B ad K 108 L (v :: r) σ := xr_aload_n dX8_run_107
theorem eX8_run_108 {v0 : Value} : wX8_run B ad K 108 L (v0 :: r) σ ↔ ((r.map fun v => v.category).sum ≤ 8 ∧ x_cl (x_v 8 (eX8_put B ad)) [v0] σ (fun v g => wX8_run B ad K 111 L (v.toList ++ r) g)) := xr_callV [v0] r dX8_run_108 rfl
theorem eX8_run_111 : wX8_run B ad K 111 L r σ ↔ wX8_run B ad K 12 L r σ := xr_goto dX8_run_111 (by decide)
theorem eX8_run_114 : wX8_run B ad K 114 L r σ ↔ ∃ v, L[0]? = some v ∧ x_rfv v ∧ wX8_run B ad K 115 L (v :: r) σ := xr_aload_n dX8_run_114
theorem eX8_run_115 {a : Nat} : wX8_run B ad K 115 L (.ref a :: r) σ ↔ ∃ fs v, σ.1 a = some (8, fs) ∧ fs[34]? = some v ∧ wX8_run B ad K 118 L (v :: r) σ := xr_getfield (t := 8) (j := 34) dX8_run_115 rfl
theorem eX8_run_118 : wX8_run B ad K 118 L r σ ↔ ∃ v, L[1]? = some (.int v) ∧ wX8_run B ad K 119 L (.int v :: r) σ := xr_iload_n dX8_run_118
theorem eX8_run_119 {x y : Int32} : wX8_run B ad K 119 L (.int y :: .int x :: r) σ ↔ wX8_run B ad K 120 L (.int (x - y) :: r) σ := xr_isub dX8_run_119
theorem eX8_run_120 {x : Int32} : wX8_run B ad K 120 L [.int x] σ ↔ K (some (.int x)) σ := xr_ireturn dX8_run_120
end
abbrev wX8_isPage (B : Nat) (ad : Nat → Nat) (K : xK) : Nat → List Value → List Value → xW → Prop := x_WP B (some .boolean) (cxX8_isPage B ad) cX8_isPage K
section
variable {B : Nat} {ad : Nat → Nat} {K : xK} {L r : List Value} {σ : xW}
theorem eX8_isPage_0 : wX8_isPage B ad K 0 L r σ ↔ ∃ v, L[1]? = some (.int v) ∧ wX8_isPage B ad K 1 L (.int v :: r) σ := xr_iload_n dX8_isPage_0
theorem eX8_isPage_1 {x : Int32} : wX8_isPage B ad K 1 L (.int x :: r) σ ↔ (if x.toInt < 0 then wX8_isPage B ad K 16 L r σ else wX8_isPage B ad K 4 L r σ) := (xr_if_lt dX8_isPage_1 (by decide)).trans x_ite
theorem eX8_isPage_4 : wX8_isPage B ad K 4 L r σ ↔ ∃ v, L[1]? = some (.int v) ∧ wX8_isPage B ad K 5 L (.int v :: r) σ := xr_iload_n dX8_isPage_4
theorem eX8_isPage_5 : wX8_isPage B ad K 5 L r σ ↔ ∃ v, L[0]? = some v ∧ x_rfv v ∧ wX8_isPage B ad K 6 L (v :: r) σ := xr_aload_n dX8_isPage_5
theorem eX8_isPage_6 {a : Nat} : wX8_isPage B ad K 6 L (.ref a :: r) σ ↔ ∃ fs v, σ.1 a = some (8, fs) ∧ fs[34]? = some v ∧ wX8_isPage B ad K 9 L (v :: r) σ := xr_getfield (t := 8) (j := 34) dX8_isPage_6 rfl
theorem eX8_isPage_9 {x y : Int32} : wX8_isPage B ad K 9 L (.int y :: .int x :: r) σ ↔ (if x.toInt < y.toInt then wX8_isPage B ad K 12 L r σ else wX8_isPage B ad K 16 L r σ) := (xr_icmp_ge dX8_isPage_9 (by decide)).trans x_ite
theorem eX8_isPage_12 : wX8_isPage B ad K 12 L r σ ↔ wX8_isPage B ad K 13 L (.int 1 :: r) σ := xr_iconst dX8_isPage_12 (by decide)
theorem eX8_isPage_13 : wX8_isPage B ad K 13 L r σ ↔ wX8_isPage B ad K 17 L r σ := xr_goto dX8_isPage_13 (by decide)
theorem eX8_isPage_16 : wX8_isPage B ad K 16 L r σ ↔ wX8_isPage B ad K 17 L (.int 0 :: r) σ := xr_iconst dX8_isPage_16 (by decide)
theorem eX8_isPage_17 {x : Int32} : wX8_isPage B ad K 17 L [.int x] σ ↔ ((x = 0 ∨ x = 1) ∧ K (some (.int x)) σ) := xr_zreturn dX8_isPage_17
end
abbrev wX8_sizeOf (B : Nat) (ad : Nat → Nat) (K : xK) : Nat → List Value → List Value → xW → Prop := x_WP B (some .int) (cxX8_sizeOf B ad) cX8_sizeOf K
section
variable {B : Nat} {ad : Nat → Nat} {K : xK} {L r : List Value} {σ : xW}
theorem eX8_sizeOf_0 : wX8_sizeOf B ad K 0 L r σ ↔ ∃ v, L[0]? = some v ∧ x_rfv v ∧ wX8_sizeOf B ad K 1 L (v :: r) σ := xr_aload_n dX8_sizeOf_0
theorem eX8_sizeOf_1 {a : Nat} : wX8_sizeOf B ad K 1 L (.ref a :: r) σ ↔ ∃ fs v, σ.1 a = some (8, fs) ∧ fs[35]? = some v ∧ wX8_sizeOf B ad K 4 L (v :: r) σ := xr_getfield (t := 8) (j := 35) dX8_sizeOf_1 rfl
theorem eX8_sizeOf_4 : wX8_sizeOf B ad K 4 L r σ ↔ ∃ v, L[1]? = some (.int v) ∧ wX8_sizeOf B ad K 5 L (.int v :: r) σ := xr_iload_n dX8_sizeOf_4
theorem eX8_sizeOf_5 : wX8_sizeOf B ad K 5 L r σ ↔ wX8_sizeOf B ad K 6 L (.int 1 :: r) σ := xr_iconst dX8_sizeOf_5 (by decide)
theorem eX8_sizeOf_6 {x y : Int32} : wX8_sizeOf B ad K 6 L (.int y :: .int x :: r) σ ↔ wX8_sizeOf B ad K 7 L (.int (x + y) :: r) σ := xr_iadd dX8_sizeOf_6
theorem eX8_sizeOf_7 {a : Nat} {x : Int32} : wX8_sizeOf B ad K 7 L (.int x :: .ref a :: r) σ ↔ ∃ t V v, σ.1 a = some (t, V) ∧ (t = 100 ∨ t = 106) ∧ x_ix x V = some v ∧ wX8_sizeOf B ad K 8 L (v :: r) σ := xr_iaload dX8_sizeOf_7
theorem eX8_sizeOf_8 : wX8_sizeOf B ad K 8 L r σ ↔ ∃ v, L[0]? = some v ∧ x_rfv v ∧ wX8_sizeOf B ad K 9 L (v :: r) σ := xr_aload_n dX8_sizeOf_8
theorem eX8_sizeOf_9 {a : Nat} : wX8_sizeOf B ad K 9 L (.ref a :: r) σ ↔ ∃ fs v, σ.1 a = some (8, fs) ∧ fs[35]? = some v ∧ wX8_sizeOf B ad K 12 L (v :: r) σ := xr_getfield (t := 8) (j := 35) dX8_sizeOf_9 rfl
theorem eX8_sizeOf_12 : wX8_sizeOf B ad K 12 L r σ ↔ ∃ v, L[1]? = some (.int v) ∧ wX8_sizeOf B ad K 13 L (.int v :: r) σ := xr_iload_n dX8_sizeOf_12
theorem eX8_sizeOf_13 {a : Nat} {x : Int32} : wX8_sizeOf B ad K 13 L (.int x :: .ref a :: r) σ ↔ ∃ t V v, σ.1 a = some (t, V) ∧ (t = 100 ∨ t = 106) ∧ x_ix x V = some v ∧ wX8_sizeOf B ad K 14 L (v :: r) σ := xr_iaload dX8_sizeOf_13
theorem eX8_sizeOf_14 {x y : Int32} : wX8_sizeOf B ad K 14 L (.int y :: .int x :: r) σ ↔ wX8_sizeOf B ad K 15 L (.int (x - y) :: r) σ := xr_isub dX8_sizeOf_14
theorem eX8_sizeOf_15 {x : Int32} : wX8_sizeOf B ad K 15 L [.int x] σ ↔ K (some (.int x)) σ := xr_ireturn dX8_sizeOf_15
end
abbrev wX8_at (B : Nat) (ad : Nat → Nat) (K : xK) : Nat → List Value → List Value → xW → Prop := x_WP B (some .int) (cxX8_at B ad) cX8_at K
section
variable {B : Nat} {ad : Nat → Nat} {K : xK} {L r : List Value} {σ : xW}
theorem eX8_at_0 : wX8_at B ad K 0 L r σ ↔ ∃ v, L[0]? = some v ∧ x_rfv v ∧ wX8_at B ad K 1 L (v :: r) σ := xr_aload_n dX8_at_0
theorem eX8_at_1 : wX8_at B ad K 1 L r σ ↔ wX8_at B ad K 2 L (.int 0 :: r) σ := xr_iconst dX8_at_1 (by decide)
theorem eX8_at_2 {x : Int32} {a : Nat} : wX8_at B ad K 2 L (.int x :: .ref a :: r) σ ↔ ∃ fs, σ.1 a = some (8, fs) ∧ 0 < fs.length ∧ B ≤ a ∧ wX8_at B ad K 5 L r (x_up σ.1 a (8, fs.set 0 (.int x)), σ.2) := xr_put_i (t := 8) (j := 0) dX8_at_2 rfl (by decide)
theorem eX8_at_5 : wX8_at B ad K 5 L r σ ↔ ∃ v, L[0]? = some v ∧ x_rfv v ∧ wX8_at B ad K 6 L (v :: r) σ := xr_aload_n dX8_at_5
theorem eX8_at_6 : wX8_at B ad K 6 L r σ ↔ ∃ v, L[1]? = some (.int v) ∧ wX8_at B ad K 7 L (.int v :: r) σ := xr_iload_n dX8_at_6
theorem eX8_at_7 {v0 v1 : Value} : wX8_at B ad K 7 L (v1 :: v0 :: r) σ ↔ ((r.map fun v => v.category).sum ≤ 8 ∧ x_cl (x_v 8 (eX8_isPage B ad)) [v0, v1] σ (fun v g => wX8_at B ad K 10 L (v.toList ++ r) g)) := xr_callV [v0, v1] r dX8_at_7 rfl
theorem eX8_at_10 {x : Int32} : wX8_at B ad K 10 L (.int x :: r) σ ↔ (if x = 0 then wX8_at B ad K 42 L r σ else wX8_at B ad K 13 L r σ) := (xr_if_eq dX8_at_10 (by decide)).trans x_ite
theorem eX8_at_13 : wX8_at B ad K 13 L r σ ↔ ∃ v, L[2]? = some (.int v) ∧ wX8_at B ad K 14 L (.int v :: r) σ := xr_iload_n dX8_at_13
theorem eX8_at_14 {x : Int32} : wX8_at B ad K 14 L (.int x :: r) σ ↔ (if x.toInt < 0 then wX8_at B ad K 42 L r σ else wX8_at B ad K 17 L r σ) := (xr_if_lt dX8_at_14 (by decide)).trans x_ite
theorem eX8_at_17 : wX8_at B ad K 17 L r σ ↔ ∃ v, L[2]? = some (.int v) ∧ wX8_at B ad K 18 L (.int v :: r) σ := xr_iload_n dX8_at_17
theorem eX8_at_18 : wX8_at B ad K 18 L r σ ↔ ∃ v, L[0]? = some v ∧ x_rfv v ∧ wX8_at B ad K 19 L (v :: r) σ := xr_aload_n dX8_at_18
theorem eX8_at_19 : wX8_at B ad K 19 L r σ ↔ ∃ v, L[1]? = some (.int v) ∧ wX8_at B ad K 20 L (.int v :: r) σ := xr_iload_n dX8_at_19
theorem eX8_at_20 {v0 v1 : Value} : wX8_at B ad K 20 L (v1 :: v0 :: r) σ ↔ ((r.map fun v => v.category).sum ≤ 8 ∧ x_cl (x_v 8 (eX8_sizeOf B ad)) [v0, v1] σ (fun v g => wX8_at B ad K 23 L (v.toList ++ r) g)) := xr_callV [v0, v1] r dX8_at_20 rfl
theorem eX8_at_23 {x y : Int32} : wX8_at B ad K 23 L (.int y :: .int x :: r) σ ↔ (if x.toInt < y.toInt then wX8_at B ad K 26 L r σ else wX8_at B ad K 42 L r σ) := (xr_icmp_ge dX8_at_23 (by decide)).trans x_ite
theorem eX8_at_26 : wX8_at B ad K 26 L r σ ↔ ∃ v, L[0]? = some v ∧ x_rfv v ∧ wX8_at B ad K 27 L (v :: r) σ := xr_aload_n dX8_at_26
theorem eX8_at_27 {a : Nat} : wX8_at B ad K 27 L (.ref a :: r) σ ↔ ∃ fs v, σ.1 a = some (8, fs) ∧ fs[36]? = some v ∧ wX8_at B ad K 30 L (v :: r) σ := xr_getfield (t := 8) (j := 36) dX8_at_27 rfl
theorem eX8_at_30 : wX8_at B ad K 30 L r σ ↔ ∃ v, L[0]? = some v ∧ x_rfv v ∧ wX8_at B ad K 31 L (v :: r) σ := xr_aload_n dX8_at_30
theorem eX8_at_31 {a : Nat} : wX8_at B ad K 31 L (.ref a :: r) σ ↔ ∃ fs v, σ.1 a = some (8, fs) ∧ fs[35]? = some v ∧ wX8_at B ad K 34 L (v :: r) σ := xr_getfield (t := 8) (j := 35) dX8_at_31 rfl
theorem eX8_at_34 : wX8_at B ad K 34 L r σ ↔ ∃ v, L[1]? = some (.int v) ∧ wX8_at B ad K 35 L (.int v :: r) σ := xr_iload_n dX8_at_34
theorem eX8_at_35 {a : Nat} {x : Int32} : wX8_at B ad K 35 L (.int x :: .ref a :: r) σ ↔ ∃ t V v, σ.1 a = some (t, V) ∧ (t = 100 ∨ t = 106) ∧ x_ix x V = some v ∧ wX8_at B ad K 36 L (v :: r) σ := xr_iaload dX8_at_35
theorem eX8_at_36 : wX8_at B ad K 36 L r σ ↔ ∃ v, L[2]? = some (.int v) ∧ wX8_at B ad K 37 L (.int v :: r) σ := xr_iload_n dX8_at_36
theorem eX8_at_37 {x y : Int32} : wX8_at B ad K 37 L (.int y :: .int x :: r) σ ↔ wX8_at B ad K 38 L (.int (x + y) :: r) σ := xr_iadd dX8_at_37
theorem eX8_at_38 {a : Nat} {x : Int32} : wX8_at B ad K 38 L (.int x :: .ref a :: r) σ ↔ ∃ t V v, σ.1 a = some (t, V) ∧ (t = 100 ∨ t = 106) ∧ x_ix x V = some v ∧ wX8_at B ad K 39 L (v :: r) σ := xr_iaload dX8_at_38
theorem eX8_at_39 : wX8_at B ad K 39 L r σ ↔ wX8_at B ad K 43 L r σ := xr_goto dX8_at_39 (by decide)
theorem eX8_at_42 : wX8_at B ad K 42 L r σ ↔ wX8_at B ad K 43 L (.int (-1) :: r) σ := xr_iconst dX8_at_42 (by decide)
theorem eX8_at_43 {x : Int32} : wX8_at B ad K 43 L [.int x] σ ↔ K (some (.int x)) σ := xr_ireturn dX8_at_43
end
abbrev wX8_part (B : Nat) (ad : Nat → Nat) (K : xK) : Nat → List Value → List Value → xW → Prop := x_WP B (some .int) (cxX8_part B ad) cX8_part K
section
variable {B : Nat} {ad : Nat → Nat} {K : xK} {L r : List Value} {σ : xW}
theorem eX8_part_0 : wX8_part B ad K 0 L r σ ↔ ∃ v, L[0]? = some v ∧ x_rfv v ∧ wX8_part B ad K 1 L (v :: r) σ := xr_aload_n dX8_part_0
theorem eX8_part_1 : wX8_part B ad K 1 L r σ ↔ wX8_part B ad K 2 L (.int 0 :: r) σ := xr_iconst dX8_part_1 (by decide)
theorem eX8_part_2 {x : Int32} {a : Nat} : wX8_part B ad K 2 L (.int x :: .ref a :: r) σ ↔ ∃ fs, σ.1 a = some (8, fs) ∧ 0 < fs.length ∧ B ≤ a ∧ wX8_part B ad K 5 L r (x_up σ.1 a (8, fs.set 0 (.int x)), σ.2) := xr_put_i (t := 8) (j := 0) dX8_part_2 rfl (by decide)
theorem eX8_part_5 : wX8_part B ad K 5 L r σ ↔ ∃ v, L[0]? = some v ∧ x_rfv v ∧ wX8_part B ad K 6 L (v :: r) σ := xr_aload_n dX8_part_5
theorem eX8_part_6 : wX8_part B ad K 6 L r σ ↔ ∃ v, L[1]? = some (.int v) ∧ wX8_part B ad K 7 L (.int v :: r) σ := xr_iload_n dX8_part_6
theorem eX8_part_7 {v0 v1 : Value} : wX8_part B ad K 7 L (v1 :: v0 :: r) σ ↔ ((r.map fun v => v.category).sum ≤ 8 ∧ x_cl (x_v 8 (eX8_isPage B ad)) [v0, v1] σ (fun v g => wX8_part B ad K 10 L (v.toList ++ r) g)) := xr_callV [v0, v1] r dX8_part_7 rfl
theorem eX8_part_10 {x : Int32} : wX8_part B ad K 10 L (.int x :: r) σ ↔ (if x = 0 then wX8_part B ad K 42 L r σ else wX8_part B ad K 13 L r σ) := (xr_if_eq dX8_part_10 (by decide)).trans x_ite
theorem eX8_part_13 : wX8_part B ad K 13 L r σ ↔ ∃ v, L[2]? = some (.int v) ∧ wX8_part B ad K 14 L (.int v :: r) σ := xr_iload_n dX8_part_13
theorem eX8_part_14 {x : Int32} : wX8_part B ad K 14 L (.int x :: r) σ ↔ (if x.toInt < 0 then wX8_part B ad K 42 L r σ else wX8_part B ad K 17 L r σ) := (xr_if_lt dX8_part_14 (by decide)).trans x_ite
theorem eX8_part_17 : wX8_part B ad K 17 L r σ ↔ ∃ v, L[2]? = some (.int v) ∧ wX8_part B ad K 18 L (.int v :: r) σ := xr_iload_n dX8_part_17
theorem eX8_part_18 : wX8_part B ad K 18 L r σ ↔ ∃ v, L[0]? = some v ∧ x_rfv v ∧ wX8_part B ad K 19 L (v :: r) σ := xr_aload_n dX8_part_18
theorem eX8_part_19 : wX8_part B ad K 19 L r σ ↔ ∃ v, L[1]? = some (.int v) ∧ wX8_part B ad K 20 L (.int v :: r) σ := xr_iload_n dX8_part_19
theorem eX8_part_20 {v0 v1 : Value} : wX8_part B ad K 20 L (v1 :: v0 :: r) σ ↔ ((r.map fun v => v.category).sum ≤ 8 ∧ x_cl (x_v 8 (eX8_sizeOf B ad)) [v0, v1] σ (fun v g => wX8_part B ad K 23 L (v.toList ++ r) g)) := xr_callV [v0, v1] r dX8_part_20 rfl
theorem eX8_part_23 {x y : Int32} : wX8_part B ad K 23 L (.int y :: .int x :: r) σ ↔ (if x.toInt < y.toInt then wX8_part B ad K 26 L r σ else wX8_part B ad K 42 L r σ) := (xr_icmp_ge dX8_part_23 (by decide)).trans x_ite
theorem eX8_part_26 : wX8_part B ad K 26 L r σ ↔ ∃ v, L[0]? = some v ∧ x_rfv v ∧ wX8_part B ad K 27 L (v :: r) σ := xr_aload_n dX8_part_26
theorem eX8_part_27 {a : Nat} : wX8_part B ad K 27 L (.ref a :: r) σ ↔ ∃ fs v, σ.1 a = some (8, fs) ∧ fs[37]? = some v ∧ wX8_part B ad K 30 L (v :: r) σ := xr_getfield (t := 8) (j := 37) dX8_part_27 rfl
theorem eX8_part_30 : wX8_part B ad K 30 L r σ ↔ ∃ v, L[0]? = some v ∧ x_rfv v ∧ wX8_part B ad K 31 L (v :: r) σ := xr_aload_n dX8_part_30
theorem eX8_part_31 {a : Nat} : wX8_part B ad K 31 L (.ref a :: r) σ ↔ ∃ fs v, σ.1 a = some (8, fs) ∧ fs[35]? = some v ∧ wX8_part B ad K 34 L (v :: r) σ := xr_getfield (t := 8) (j := 35) dX8_part_31 rfl
theorem eX8_part_34 : wX8_part B ad K 34 L r σ ↔ ∃ v, L[1]? = some (.int v) ∧ wX8_part B ad K 35 L (.int v :: r) σ := xr_iload_n dX8_part_34
theorem eX8_part_35 {a : Nat} {x : Int32} : wX8_part B ad K 35 L (.int x :: .ref a :: r) σ ↔ ∃ t V v, σ.1 a = some (t, V) ∧ (t = 100 ∨ t = 106) ∧ x_ix x V = some v ∧ wX8_part B ad K 36 L (v :: r) σ := xr_iaload dX8_part_35
theorem eX8_part_36 : wX8_part B ad K 36 L r σ ↔ ∃ v, L[2]? = some (.int v) ∧ wX8_part B ad K 37 L (.int v :: r) σ := xr_iload_n dX8_part_36
theorem eX8_part_37 {x y : Int32} : wX8_part B ad K 37 L (.int y :: .int x :: r) σ ↔ wX8_part B ad K 38 L (.int (x + y) :: r) σ := xr_iadd dX8_part_37
theorem eX8_part_38 {a : Nat} {x : Int32} : wX8_part B ad K 38 L (.int x :: .ref a :: r) σ ↔ ∃ t V v, σ.1 a = some (t, V) ∧ (t = 100 ∨ t = 106) ∧ x_ix x V = some v ∧ wX8_part B ad K 39 L (v :: r) σ := xr_iaload dX8_part_38
theorem eX8_part_39 : wX8_part B ad K 39 L r σ ↔ wX8_part B ad K 43 L r σ := xr_goto dX8_part_39 (by decide)
theorem eX8_part_42 : wX8_part B ad K 42 L r σ ↔ wX8_part B ad K 43 L (.int 0 :: r) σ := xr_iconst dX8_part_42 (by decide)
theorem eX8_part_43 {x : Int32} : wX8_part B ad K 43 L [.int x] σ ↔ K (some (.int x)) σ := xr_ireturn dX8_part_43
end
abbrev wX8_told (B : Nat) (ad : Nat → Nat) (K : xK) : Nat → List Value → List Value → xW → Prop := x_WP B (some .long) (cxX8_told B ad) cX8_told K
section
variable {B : Nat} {ad : Nat → Nat} {K : xK} {L r : List Value} {σ : xW}
theorem eX8_told_0 : wX8_told B ad K 0 L r σ ↔ ∃ v, L[0]? = some v ∧ x_rfv v ∧ wX8_told B ad K 1 L (v :: r) σ := xr_aload_n dX8_told_0
theorem eX8_told_1 : wX8_told B ad K 1 L r σ ↔ wX8_told B ad K 2 L (.int 0 :: r) σ := xr_iconst dX8_told_1 (by decide)
theorem eX8_told_2 {x : Int32} {a : Nat} : wX8_told B ad K 2 L (.int x :: .ref a :: r) σ ↔ ∃ fs, σ.1 a = some (8, fs) ∧ 0 < fs.length ∧ B ≤ a ∧ wX8_told B ad K 5 L r (x_up σ.1 a (8, fs.set 0 (.int x)), σ.2) := xr_put_i (t := 8) (j := 0) dX8_told_2 rfl (by decide)
theorem eX8_told_5 : wX8_told B ad K 5 L r σ ↔ ∃ v, L[0]? = some v ∧ x_rfv v ∧ wX8_told B ad K 6 L (v :: r) σ := xr_aload_n dX8_told_5
theorem eX8_told_6 : wX8_told B ad K 6 L r σ ↔ ∃ v, L[1]? = some (.int v) ∧ wX8_told B ad K 7 L (.int v :: r) σ := xr_iload_n dX8_told_6
theorem eX8_told_7 {v0 v1 : Value} : wX8_told B ad K 7 L (v1 :: v0 :: r) σ ↔ ((r.map fun v => v.category).sum ≤ 8 ∧ x_cl (x_v 8 (eX8_isPage B ad)) [v0, v1] σ (fun v g => wX8_told B ad K 10 L (v.toList ++ r) g)) := xr_callV [v0, v1] r dX8_told_7 rfl
theorem eX8_told_10 {x : Int32} : wX8_told B ad K 10 L (.int x :: r) σ ↔ (if x = 0 then wX8_told B ad K 23 L r σ else wX8_told B ad K 13 L r σ) := (xr_if_eq dX8_told_10 (by decide)).trans x_ite
theorem eX8_told_13 : wX8_told B ad K 13 L r σ ↔ ∃ v, L[2]? = some (.int v) ∧ wX8_told B ad K 14 L (.int v :: r) σ := xr_iload_n dX8_told_13
theorem eX8_told_14 {x : Int32} : wX8_told B ad K 14 L (.int x :: r) σ ↔ (if x.toInt < 0 then wX8_told B ad K 23 L r σ else wX8_told B ad K 17 L r σ) := (xr_if_lt dX8_told_14 (by decide)).trans x_ite
theorem eX8_told_17 : wX8_told B ad K 17 L r σ ↔ ∃ v, L[2]? = some (.int v) ∧ wX8_told B ad K 18 L (.int v :: r) σ := xr_iload_n dX8_told_17
theorem eX8_told_18 : wX8_told B ad K 18 L r σ ↔ wX8_told B ad K 20 L (.int 14 :: r) σ := xr_bipush dX8_told_18 (by decide)
theorem eX8_told_20 {x y : Int32} : wX8_told B ad K 20 L (.int y :: .int x :: r) σ ↔ (if y.toInt < x.toInt then wX8_told B ad K 23 L r σ else wX8_told B ad K 27 L r σ) := (xr_icmp_le dX8_told_20 (by decide)).trans x_ite
theorem eX8_told_23 : wX8_told B ad K 23 L r σ ↔ wX8_told B ad K 26 L (.long (-1) :: r) σ := xr_ldc2 dX8_told_23 rfl
theorem eX8_told_26 {x : Int64} : wX8_told B ad K 26 L [.long x] σ ↔ K (some (.long x)) σ := xr_lreturn dX8_told_26
theorem eX8_told_27 : wX8_told B ad K 27 L r σ ↔ ∃ v, L[2]? = some (.int v) ∧ wX8_told B ad K 28 L (.int v :: r) σ := xr_iload_n dX8_told_27
theorem eX8_told_28 {x : Int32} : wX8_told B ad K 28 L (.int x :: r) σ ↔ (if x = 0 then wX8_told B ad K 31 L r σ else wX8_told B ad K 38 L r σ) := (xr_if_ne dX8_told_28 (by decide)).trans x_ite
theorem eX8_told_31 : wX8_told B ad K 31 L r σ ↔ ∃ v, L[0]? = some v ∧ x_rfv v ∧ wX8_told B ad K 32 L (v :: r) σ := xr_aload_n dX8_told_31
theorem eX8_told_32 : wX8_told B ad K 32 L r σ ↔ ∃ v, L[1]? = some (.int v) ∧ wX8_told B ad K 33 L (.int v :: r) σ := xr_iload_n dX8_told_32
theorem eX8_told_33 {v0 v1 : Value} : wX8_told B ad K 33 L (v1 :: v0 :: r) σ ↔ ((r.map fun v => v.category).sum ≤ 8 ∧ x_cl (x_v 8 (eX8_sizeOf B ad)) [v0, v1] σ (fun v g => wX8_told B ad K 36 L (v.toList ++ r) g)) := xr_callV [v0, v1] r dX8_told_33 rfl
theorem eX8_told_36 {x : Int32} : wX8_told B ad K 36 L (.int x :: r) σ ↔ wX8_told B ad K 37 L (.long x.toInt64 :: r) σ := xr_i2l dX8_told_36
theorem eX8_told_37 {x : Int64} : wX8_told B ad K 37 L [.long x] σ ↔ K (some (.long x)) σ := xr_lreturn dX8_told_37
theorem eX8_told_38 : wX8_told B ad K 38 L r σ ↔ ∃ v, L[2]? = some (.int v) ∧ wX8_told B ad K 39 L (.int v :: r) σ := xr_iload_n dX8_told_38
theorem eX8_told_39 : wX8_told B ad K 39 L r σ ↔ wX8_told B ad K 41 L (.int 9 :: r) σ := xr_bipush dX8_told_39 (by decide)
theorem eX8_told_41 {x y : Int32} : wX8_told B ad K 41 L (.int y :: .int x :: r) σ ↔ (if x.toInt < y.toInt then wX8_told B ad K 44 L r σ else wX8_told B ad K 58 L r σ) := (xr_icmp_ge dX8_told_41 (by decide)).trans x_ite
theorem eX8_told_44 : wX8_told B ad K 44 L r σ ↔ ∃ v, L[0]? = some v ∧ x_rfv v ∧ wX8_told B ad K 45 L (v :: r) σ := xr_aload_n dX8_told_44
theorem eX8_told_45 {a : Nat} : wX8_told B ad K 45 L (.ref a :: r) σ ↔ ∃ fs v, σ.1 a = some (8, fs) ∧ fs[38]? = some v ∧ wX8_told B ad K 48 L (v :: r) σ := xr_getfield (t := 8) (j := 38) dX8_told_45 rfl
theorem eX8_told_48 : wX8_told B ad K 48 L r σ ↔ wX8_told B ad K 50 L (.int 12 :: r) σ := xr_bipush dX8_told_48 (by decide)
theorem eX8_told_50 : wX8_told B ad K 50 L r σ ↔ ∃ v, L[1]? = some (.int v) ∧ wX8_told B ad K 51 L (.int v :: r) σ := xr_iload_n dX8_told_50
theorem eX8_told_51 {x y : Int32} : wX8_told B ad K 51 L (.int y :: .int x :: r) σ ↔ wX8_told B ad K 52 L (.int (x * y) :: r) σ := xr_imul dX8_told_51
theorem eX8_told_52 : wX8_told B ad K 52 L r σ ↔ ∃ v, L[2]? = some (.int v) ∧ wX8_told B ad K 53 L (.int v :: r) σ := xr_iload_n dX8_told_52
theorem eX8_told_53 {x y : Int32} : wX8_told B ad K 53 L (.int y :: .int x :: r) σ ↔ wX8_told B ad K 54 L (.int (x + y) :: r) σ := xr_iadd dX8_told_53
theorem eX8_told_54 : wX8_told B ad K 54 L r σ ↔ wX8_told B ad K 55 L (.int 1 :: r) σ := xr_iconst dX8_told_54 (by decide)
theorem eX8_told_55 {x y : Int32} : wX8_told B ad K 55 L (.int y :: .int x :: r) σ ↔ wX8_told B ad K 56 L (.int (x - y) :: r) σ := xr_isub dX8_told_55
theorem eX8_told_56 {a : Nat} {x : Int32} : wX8_told B ad K 56 L (.int x :: .ref a :: r) σ ↔ ∃ V v, σ.1 a = some (101, V) ∧ x_ix x V = some v ∧ wX8_told B ad K 57 L (v :: r) σ := xr_laload dX8_told_56
theorem eX8_told_57 {x : Int64} : wX8_told B ad K 57 L [.long x] σ ↔ K (some (.long x)) σ := xr_lreturn dX8_told_57
theorem eX8_told_58 : wX8_told B ad K 58 L r σ ↔ ∃ v, L[2]? = some (.int v) ∧ wX8_told B ad K 59 L (.int v :: r) σ := xr_iload_n dX8_told_58
theorem eX8_told_59 : wX8_told B ad K 59 L r σ ↔ wX8_told B ad K 61 L (.int 9 :: r) σ := xr_bipush dX8_told_59 (by decide)
theorem eX8_told_61 {x y : Int32} : wX8_told B ad K 61 L (.int y :: .int x :: r) σ ↔ (if x = y then wX8_told B ad K 64 L r σ else wX8_told B ad K 73 L r σ) := (xr_icmp_ne dX8_told_61 (by decide)).trans x_ite
theorem eX8_told_64 : wX8_told B ad K 64 L r σ ↔ ∃ v, L[0]? = some v ∧ x_rfv v ∧ wX8_told B ad K 65 L (v :: r) σ := xr_aload_n dX8_told_64
theorem eX8_told_65 {a : Nat} : wX8_told B ad K 65 L (.ref a :: r) σ ↔ ∃ fs v, σ.1 a = some (8, fs) ∧ fs[39]? = some v ∧ wX8_told B ad K 68 L (v :: r) σ := xr_getfield (t := 8) (j := 39) dX8_told_65 rfl
theorem eX8_told_68 : wX8_told B ad K 68 L r σ ↔ ∃ v, L[1]? = some (.int v) ∧ wX8_told B ad K 69 L (.int v :: r) σ := xr_iload_n dX8_told_68
theorem eX8_told_69 {a : Nat} {x : Int32} : wX8_told B ad K 69 L (.int x :: .ref a :: r) σ ↔ ∃ V v, σ.1 a = some (101, V) ∧ x_ix x V = some v ∧ wX8_told B ad K 70 L (v :: r) σ := xr_laload dX8_told_69
theorem eX8_told_70 : wX8_told B ad K 70 L r σ ↔ wX8_told B ad K 102 L r σ := xr_goto dX8_told_70 (by decide)
theorem eX8_told_73 : wX8_told B ad K 73 L r σ ↔ ∃ v, L[2]? = some (.int v) ∧ wX8_told B ad K 74 L (.int v :: r) σ := xr_iload_n dX8_told_73
theorem eX8_told_74 : wX8_told B ad K 74 L r σ ↔ wX8_told B ad K 76 L (.int 10 :: r) σ := xr_bipush dX8_told_74 (by decide)
theorem eX8_told_76 {x y : Int32} : wX8_told B ad K 76 L (.int y :: .int x :: r) σ ↔ (if x = y then wX8_told B ad K 79 L r σ else wX8_told B ad K 89 L r σ) := (xr_icmp_ne dX8_told_76 (by decide)).trans x_ite
theorem eX8_told_79 : wX8_told B ad K 79 L r σ ↔ ∃ v, L[0]? = some v ∧ x_rfv v ∧ wX8_told B ad K 80 L (v :: r) σ := xr_aload_n dX8_told_79
theorem eX8_told_80 {a : Nat} : wX8_told B ad K 80 L (.ref a :: r) σ ↔ ∃ fs v, σ.1 a = some (8, fs) ∧ fs[40]? = some v ∧ wX8_told B ad K 83 L (v :: r) σ := xr_getfield (t := 8) (j := 40) dX8_told_80 rfl
theorem eX8_told_83 : wX8_told B ad K 83 L r σ ↔ ∃ v, L[1]? = some (.int v) ∧ wX8_told B ad K 84 L (.int v :: r) σ := xr_iload_n dX8_told_83
theorem eX8_told_84 {a : Nat} {x : Int32} : wX8_told B ad K 84 L (.int x :: .ref a :: r) σ ↔ ∃ t V v, σ.1 a = some (t, V) ∧ (t = 100 ∨ t = 106) ∧ x_ix x V = some v ∧ wX8_told B ad K 85 L (v :: r) σ := xr_iaload dX8_told_84
theorem eX8_told_85 {x : Int32} : wX8_told B ad K 85 L (.int x :: r) σ ↔ wX8_told B ad K 86 L (.long x.toInt64 :: r) σ := xr_i2l dX8_told_85
theorem eX8_told_86 : wX8_told B ad K 86 L r σ ↔ wX8_told B ad K 102 L r σ := xr_goto dX8_told_86 (by decide)
theorem eX8_told_89 : wX8_told B ad K 89 L r σ ↔ ∃ v, L[0]? = some v ∧ x_rfv v ∧ wX8_told B ad K 90 L (v :: r) σ := xr_aload_n dX8_told_89
theorem eX8_told_90 {a : Nat} : wX8_told B ad K 90 L (.ref a :: r) σ ↔ ∃ fs v, σ.1 a = some (8, fs) ∧ fs[38]? = some v ∧ wX8_told B ad K 93 L (v :: r) σ := xr_getfield (t := 8) (j := 38) dX8_told_90 rfl
theorem eX8_told_93 : wX8_told B ad K 93 L r σ ↔ wX8_told B ad K 95 L (.int 12 :: r) σ := xr_bipush dX8_told_93 (by decide)
theorem eX8_told_95 : wX8_told B ad K 95 L r σ ↔ ∃ v, L[1]? = some (.int v) ∧ wX8_told B ad K 96 L (.int v :: r) σ := xr_iload_n dX8_told_95
theorem eX8_told_96 {x y : Int32} : wX8_told B ad K 96 L (.int y :: .int x :: r) σ ↔ wX8_told B ad K 97 L (.int (x * y) :: r) σ := xr_imul dX8_told_96
theorem eX8_told_97 : wX8_told B ad K 97 L r σ ↔ ∃ v, L[2]? = some (.int v) ∧ wX8_told B ad K 98 L (.int v :: r) σ := xr_iload_n dX8_told_97
theorem eX8_told_98 {x y : Int32} : wX8_told B ad K 98 L (.int y :: .int x :: r) σ ↔ wX8_told B ad K 99 L (.int (x + y) :: r) σ := xr_iadd dX8_told_98
theorem eX8_told_99 : wX8_told B ad K 99 L r σ ↔ wX8_told B ad K 100 L (.int 3 :: r) σ := xr_iconst dX8_told_99 (by decide)
theorem eX8_told_100 {x y : Int32} : wX8_told B ad K 100 L (.int y :: .int x :: r) σ ↔ wX8_told B ad K 101 L (.int (x - y) :: r) σ := xr_isub dX8_told_100
theorem eX8_told_101 {a : Nat} {x : Int32} : wX8_told B ad K 101 L (.int x :: .ref a :: r) σ ↔ ∃ V v, σ.1 a = some (101, V) ∧ x_ix x V = some v ∧ wX8_told B ad K 102 L (v :: r) σ := xr_laload dX8_told_101
theorem eX8_told_102 {x : Int64} : wX8_told B ad K 102 L [.long x] σ ↔ K (some (.long x)) σ := xr_lreturn dX8_told_102
end
abbrev wX8_marked (B : Nat) (ad : Nat → Nat) (K : xK) : Nat → List Value → List Value → xW → Prop := x_WP B (some .int) (cxX8_marked B ad) cX8_marked K
section
variable {B : Nat} {ad : Nat → Nat} {K : xK} {L r : List Value} {σ : xW}
theorem eX8_marked_0 : wX8_marked B ad K 0 L r σ ↔ ∃ v, L[0]? = some v ∧ x_rfv v ∧ wX8_marked B ad K 1 L (v :: r) σ := xr_aload_n dX8_marked_0
theorem eX8_marked_1 : wX8_marked B ad K 1 L r σ ↔ ∃ v, L[0]? = some v ∧ x_rfv v ∧ wX8_marked B ad K 2 L (v :: r) σ := xr_aload_n dX8_marked_1
theorem eX8_marked_2 : wX8_marked B ad K 2 L r σ ↔ ∃ v, L[1]? = some (.int v) ∧ wX8_marked B ad K 3 L (.int v :: r) σ := xr_iload_n dX8_marked_2
theorem eX8_marked_3 {v0 v1 : Value} : wX8_marked B ad K 3 L (v1 :: v0 :: r) σ ↔ ((r.map fun v => v.category).sum ≤ 8 ∧ x_cl (x_v 8 (eX8_isPage B ad)) [v0, v1] σ (fun v g => wX8_marked B ad K 6 L (v.toList ++ r) g)) := xr_callV [v0, v1] r dX8_marked_3 rfl
theorem eX8_marked_6 {x : Int32} : wX8_marked B ad K 6 L (.int x :: r) σ ↔ (if x = 0 then wX8_marked B ad K 22 L r σ else wX8_marked B ad K 9 L r σ) := (xr_if_eq dX8_marked_6 (by decide)).trans x_ite
theorem eX8_marked_9 : wX8_marked B ad K 9 L r σ ↔ ∃ v, L[2]? = some (.int v) ∧ wX8_marked B ad K 10 L (.int v :: r) σ := xr_iload_n dX8_marked_9
theorem eX8_marked_10 {x : Int32} : wX8_marked B ad K 10 L (.int x :: r) σ ↔ (if x.toInt < 0 then wX8_marked B ad K 22 L r σ else wX8_marked B ad K 13 L r σ) := (xr_if_lt dX8_marked_10 (by decide)).trans x_ite
theorem eX8_marked_13 : wX8_marked B ad K 13 L r σ ↔ ∃ v, L[2]? = some (.int v) ∧ wX8_marked B ad K 14 L (.int v :: r) σ := xr_iload_n dX8_marked_13
theorem eX8_marked_14 : wX8_marked B ad K 14 L r σ ↔ wX8_marked B ad K 15 L (.int 2 :: r) σ := xr_iconst dX8_marked_14 (by decide)
theorem eX8_marked_15 {x y : Int32} : wX8_marked B ad K 15 L (.int y :: .int x :: r) σ ↔ (if y.toInt < x.toInt then wX8_marked B ad K 22 L r σ else wX8_marked B ad K 18 L r σ) := (xr_icmp_gt dX8_marked_15 (by decide)).trans x_ite
theorem eX8_marked_18 : wX8_marked B ad K 18 L r σ ↔ wX8_marked B ad K 19 L (.int 0 :: r) σ := xr_iconst dX8_marked_18 (by decide)
theorem eX8_marked_19 : wX8_marked B ad K 19 L r σ ↔ wX8_marked B ad K 23 L r σ := xr_goto dX8_marked_19 (by decide)
theorem eX8_marked_22 : wX8_marked B ad K 22 L r σ ↔ wX8_marked B ad K 23 L (.int 1 :: r) σ := xr_iconst dX8_marked_22 (by decide)
theorem eX8_marked_23 {x : Int32} {a : Nat} : wX8_marked B ad K 23 L (.int x :: .ref a :: r) σ ↔ ∃ fs, σ.1 a = some (8, fs) ∧ 0 < fs.length ∧ B ≤ a ∧ wX8_marked B ad K 26 L r (x_up σ.1 a (8, fs.set 0 (.int x)), σ.2) := xr_put_i (t := 8) (j := 0) dX8_marked_23 rfl (by decide)
theorem eX8_marked_26 : wX8_marked B ad K 26 L r σ ↔ ∃ v, L[0]? = some v ∧ x_rfv v ∧ wX8_marked B ad K 27 L (v :: r) σ := xr_aload_n dX8_marked_26
theorem eX8_marked_27 {a : Nat} : wX8_marked B ad K 27 L (.ref a :: r) σ ↔ ∃ fs v, σ.1 a = some (8, fs) ∧ fs[0]? = some v ∧ wX8_marked B ad K 30 L (v :: r) σ := xr_getfield (t := 8) (j := 0) dX8_marked_27 rfl
theorem eX8_marked_30 {x : Int32} : wX8_marked B ad K 30 L (.int x :: r) σ ↔ (if 0 < x.toInt then wX8_marked B ad K 33 L r σ else wX8_marked B ad K 37 L r σ) := (xr_if_le dX8_marked_30 (by decide)).trans x_ite
theorem eX8_marked_33 : wX8_marked B ad K 33 L r σ ↔ wX8_marked B ad K 34 L (.int 0 :: r) σ := xr_iconst dX8_marked_33 (by decide)
theorem eX8_marked_34 : wX8_marked B ad K 34 L r σ ↔ wX8_marked B ad K 47 L r σ := xr_goto dX8_marked_34 (by decide)
theorem eX8_marked_37 : wX8_marked B ad K 37 L r σ ↔ ∃ v, L[0]? = some v ∧ x_rfv v ∧ wX8_marked B ad K 38 L (v :: r) σ := xr_aload_n dX8_marked_37
theorem eX8_marked_38 {a : Nat} : wX8_marked B ad K 38 L (.ref a :: r) σ ↔ ∃ fs v, σ.1 a = some (8, fs) ∧ fs[41]? = some v ∧ wX8_marked B ad K 41 L (v :: r) σ := xr_getfield (t := 8) (j := 41) dX8_marked_38 rfl
theorem eX8_marked_41 : wX8_marked B ad K 41 L r σ ↔ wX8_marked B ad K 42 L (.int 3 :: r) σ := xr_iconst dX8_marked_41 (by decide)
theorem eX8_marked_42 : wX8_marked B ad K 42 L r σ ↔ ∃ v, L[1]? = some (.int v) ∧ wX8_marked B ad K 43 L (.int v :: r) σ := xr_iload_n dX8_marked_42
theorem eX8_marked_43 {x y : Int32} : wX8_marked B ad K 43 L (.int y :: .int x :: r) σ ↔ wX8_marked B ad K 44 L (.int (x * y) :: r) σ := xr_imul dX8_marked_43
theorem eX8_marked_44 : wX8_marked B ad K 44 L r σ ↔ ∃ v, L[2]? = some (.int v) ∧ wX8_marked B ad K 45 L (.int v :: r) σ := xr_iload_n dX8_marked_44
theorem eX8_marked_45 {x y : Int32} : wX8_marked B ad K 45 L (.int y :: .int x :: r) σ ↔ wX8_marked B ad K 46 L (.int (x + y) :: r) σ := xr_iadd dX8_marked_45
theorem eX8_marked_46 {a : Nat} {x : Int32} : wX8_marked B ad K 46 L (.int x :: .ref a :: r) σ ↔ ∃ t V v, σ.1 a = some (t, V) ∧ (t = 100 ∨ t = 106) ∧ x_ix x V = some v ∧ wX8_marked B ad K 47 L (v :: r) σ := xr_iaload dX8_marked_46
theorem eX8_marked_47 {x : Int32} : wX8_marked B ad K 47 L [.int x] σ ↔ K (some (.int x)) σ := xr_ireturn dX8_marked_47
end
abbrev wX8_now (B : Nat) (ad : Nat → Nat) (K : xK) : Nat → List Value → List Value → xW → Prop := x_WP B (some .long) (cxX8_now B ad) cX8_now K
section
variable {B : Nat} {ad : Nat → Nat} {K : xK} {L r : List Value} {σ : xW}
theorem eX8_now_0 : wX8_now B ad K 0 L r σ ↔ ∃ v, L[0]? = some v ∧ x_rfv v ∧ wX8_now B ad K 1 L (v :: r) σ := xr_aload_n dX8_now_0
theorem eX8_now_1 : wX8_now B ad K 1 L r σ ↔ wX8_now B ad K 2 L (.int 0 :: r) σ := xr_iconst dX8_now_1 (by decide)
theorem eX8_now_2 {x : Int32} {a : Nat} : wX8_now B ad K 2 L (.int x :: .ref a :: r) σ ↔ ∃ fs, σ.1 a = some (8, fs) ∧ 0 < fs.length ∧ B ≤ a ∧ wX8_now B ad K 5 L r (x_up σ.1 a (8, fs.set 0 (.int x)), σ.2) := xr_put_i (t := 8) (j := 0) dX8_now_2 rfl (by decide)
theorem eX8_now_5 : wX8_now B ad K 5 L r σ ↔ ∃ v, L[1]? = some (.int v) ∧ wX8_now B ad K 6 L (.int v :: r) σ := xr_iload_n dX8_now_5
theorem eX8_now_6 {x : Int32} : wX8_now B ad K 6 L (.int x :: r) σ ↔ (if x = 0 then wX8_now B ad K 9 L r σ else wX8_now B ad K 15 L r σ) := (xr_if_ne dX8_now_6 (by decide)).trans x_ite
theorem eX8_now_9 : wX8_now B ad K 9 L r σ ↔ ∃ v, L[0]? = some v ∧ x_rfv v ∧ wX8_now B ad K 10 L (v :: r) σ := xr_aload_n dX8_now_9
theorem eX8_now_10 {a : Nat} : wX8_now B ad K 10 L (.ref a :: r) σ ↔ ∃ fs v, σ.1 a = some (8, fs) ∧ fs[18]? = some v ∧ wX8_now B ad K 13 L (v :: r) σ := xr_getfield (t := 8) (j := 18) dX8_now_10 rfl
theorem eX8_now_13 {x : Int32} : wX8_now B ad K 13 L (.int x :: r) σ ↔ wX8_now B ad K 14 L (.long x.toInt64 :: r) σ := xr_i2l dX8_now_13
theorem eX8_now_14 {x : Int64} : wX8_now B ad K 14 L [.long x] σ ↔ K (some (.long x)) σ := xr_lreturn dX8_now_14
theorem eX8_now_15 : wX8_now B ad K 15 L r σ ↔ ∃ v, L[1]? = some (.int v) ∧ wX8_now B ad K 16 L (.int v :: r) σ := xr_iload_n dX8_now_15
theorem eX8_now_16 : wX8_now B ad K 16 L r σ ↔ wX8_now B ad K 17 L (.int 1 :: r) σ := xr_iconst dX8_now_16 (by decide)
theorem eX8_now_17 {x y : Int32} : wX8_now B ad K 17 L (.int y :: .int x :: r) σ ↔ (if x.toInt < y.toInt then wX8_now B ad K 35 L r σ else wX8_now B ad K 20 L r σ) := (xr_icmp_lt dX8_now_17 (by decide)).trans x_ite
theorem eX8_now_20 : wX8_now B ad K 20 L r σ ↔ ∃ v, L[1]? = some (.int v) ∧ wX8_now B ad K 21 L (.int v :: r) σ := xr_iload_n dX8_now_20
theorem eX8_now_21 : wX8_now B ad K 21 L r σ ↔ wX8_now B ad K 23 L (.int 8 :: r) σ := xr_bipush dX8_now_21 (by decide)
theorem eX8_now_23 {x y : Int32} : wX8_now B ad K 23 L (.int y :: .int x :: r) σ ↔ (if y.toInt < x.toInt then wX8_now B ad K 35 L r σ else wX8_now B ad K 26 L r σ) := (xr_icmp_gt dX8_now_23 (by decide)).trans x_ite
theorem eX8_now_26 : wX8_now B ad K 26 L r σ ↔ ∃ v, L[0]? = some v ∧ x_rfv v ∧ wX8_now B ad K 27 L (v :: r) σ := xr_aload_n dX8_now_26
theorem eX8_now_27 {a : Nat} : wX8_now B ad K 27 L (.ref a :: r) σ ↔ ∃ fs v, σ.1 a = some (8, fs) ∧ fs[24]? = some v ∧ wX8_now B ad K 30 L (v :: r) σ := xr_getfield (t := 8) (j := 24) dX8_now_27 rfl
theorem eX8_now_30 : wX8_now B ad K 30 L r σ ↔ ∃ v, L[1]? = some (.int v) ∧ wX8_now B ad K 31 L (.int v :: r) σ := xr_iload_n dX8_now_30
theorem eX8_now_31 : wX8_now B ad K 31 L r σ ↔ wX8_now B ad K 32 L (.int 1 :: r) σ := xr_iconst dX8_now_31 (by decide)
theorem eX8_now_32 {x y : Int32} : wX8_now B ad K 32 L (.int y :: .int x :: r) σ ↔ wX8_now B ad K 33 L (.int (x - y) :: r) σ := xr_isub dX8_now_32
theorem eX8_now_33 {a : Nat} {x : Int32} : wX8_now B ad K 33 L (.int x :: .ref a :: r) σ ↔ ∃ V v, σ.1 a = some (101, V) ∧ x_ix x V = some v ∧ wX8_now B ad K 34 L (v :: r) σ := xr_laload dX8_now_33
theorem eX8_now_34 {x : Int64} : wX8_now B ad K 34 L [.long x] σ ↔ K (some (.long x)) σ := xr_lreturn dX8_now_34
theorem eX8_now_35 : wX8_now B ad K 35 L r σ ↔ ∃ v, L[0]? = some v ∧ x_rfv v ∧ wX8_now B ad K 36 L (v :: r) σ := xr_aload_n dX8_now_35
theorem eX8_now_36 {a : Nat} : wX8_now B ad K 36 L (.ref a :: r) σ ↔ ∃ fs v, σ.1 a = some (8, fs) ∧ fs[15]? = some v ∧ wX8_now B ad K 39 L (v :: r) σ := xr_getfield (t := 8) (j := 15) dX8_now_36 rfl
theorem eX8_now_39 {x : Int32} : wX8_now B ad K 39 L (.int x :: r) σ ↔ (if 0 < x.toInt then wX8_now B ad K 42 L r σ else wX8_now B ad K 46 L r σ) := (xr_if_le dX8_now_39 (by decide)).trans x_ite
theorem eX8_now_42 : wX8_now B ad K 42 L r σ ↔ wX8_now B ad K 43 L (.int 1 :: r) σ := xr_iconst dX8_now_42 (by decide)
theorem eX8_now_43 : wX8_now B ad K 43 L r σ ↔ wX8_now B ad K 47 L r σ := xr_goto dX8_now_43 (by decide)
theorem eX8_now_46 : wX8_now B ad K 46 L r σ ↔ wX8_now B ad K 47 L (.int 0 :: r) σ := xr_iconst dX8_now_46 (by decide)
theorem eX8_now_47 {v : Int32} : wX8_now B ad K 47 L (.int v :: r) σ ↔ (2 < L.length ∧ x_nl L 2 ∧ wX8_now B ad K 48 (L.set 2 (.int v)) r σ) := xr_istore_n dX8_now_47
theorem eX8_now_48 : wX8_now B ad K 48 L r σ ↔ ∃ v, L[1]? = some (.int v) ∧ wX8_now B ad K 49 L (.int v :: r) σ := xr_iload_n dX8_now_48
theorem eX8_now_84 : wX8_now B ad K 84 L r σ ↔ ∃ v, L[0]? = some v ∧ x_rfv v ∧ wX8_now B ad K 85 L (v :: r) σ := xr_aload_n dX8_now_84
theorem eX8_now_85 {a : Nat} : wX8_now B ad K 85 L (.ref a :: r) σ ↔ ∃ fs v, σ.1 a = some (8, fs) ∧ fs[30]? = some v ∧ wX8_now B ad K 88 L (v :: r) σ := xr_getfield (t := 8) (j := 30) dX8_now_85 rfl
theorem eX8_now_88 {x : Int32} : wX8_now B ad K 88 L (.int x :: r) σ ↔ (if x = 0 then wX8_now B ad K 98 L r σ else wX8_now B ad K 91 L r σ) := (xr_if_eq dX8_now_88 (by decide)).trans x_ite
theorem eX8_now_91 : wX8_now B ad K 91 L r σ ↔ ∃ v, L[0]? = some v ∧ x_rfv v ∧ wX8_now B ad K 92 L (v :: r) σ := xr_aload_n dX8_now_91
theorem eX8_now_92 {a : Nat} : wX8_now B ad K 92 L (.ref a :: r) σ ↔ ∃ fs v, σ.1 a = some (8, fs) ∧ fs[32]? = some v ∧ wX8_now B ad K 95 L (v :: r) σ := xr_getfield (t := 8) (j := 32) dX8_now_92 rfl
theorem eX8_now_95 : wX8_now B ad K 95 L r σ ↔ wX8_now B ad K 101 L r σ := xr_goto dX8_now_95 (by decide)
theorem eX8_now_98 : wX8_now B ad K 98 L r σ ↔ wX8_now B ad K 101 L (.long 1073741823 :: r) σ := xr_ldc2 dX8_now_98 rfl
theorem eX8_now_101 {x : Int64} : wX8_now B ad K 101 L [.long x] σ ↔ K (some (.long x)) σ := xr_lreturn dX8_now_101
theorem eX8_now_102 : wX8_now B ad K 102 L r σ ↔ ∃ v, L[0]? = some v ∧ x_rfv v ∧ wX8_now B ad K 103 L (v :: r) σ := xr_aload_n dX8_now_102
theorem eX8_now_103 {a : Nat} : wX8_now B ad K 103 L (.ref a :: r) σ ↔ ∃ fs v, σ.1 a = some (8, fs) ∧ fs[27]? = some v ∧ wX8_now B ad K 106 L (v :: r) σ := xr_getfield (t := 8) (j := 27) dX8_now_103 rfl
theorem eX8_now_106 {x : Int64} : wX8_now B ad K 106 L [.long x] σ ↔ K (some (.long x)) σ := xr_lreturn dX8_now_106
theorem eX8_now_107 : wX8_now B ad K 107 L r σ ↔ ∃ v, L[0]? = some v ∧ x_rfv v ∧ wX8_now B ad K 108 L (v :: r) σ := xr_aload_n dX8_now_107
theorem eX8_now_108 {a : Nat} : wX8_now B ad K 108 L (.ref a :: r) σ ↔ ∃ fs v, σ.1 a = some (8, fs) ∧ fs[15]? = some v ∧ wX8_now B ad K 111 L (v :: r) σ := xr_getfield (t := 8) (j := 15) dX8_now_108 rfl
theorem eX8_now_111 {x : Int32} : wX8_now B ad K 111 L (.int x :: r) σ ↔ wX8_now B ad K 112 L (.long x.toInt64 :: r) σ := xr_i2l dX8_now_111
theorem eX8_now_112 {x : Int64} : wX8_now B ad K 112 L [.long x] σ ↔ K (some (.long x)) σ := xr_lreturn dX8_now_112
theorem eX8_now_113 : wX8_now B ad K 113 L r σ ↔ ∃ v, L[2]? = some (.int v) ∧ wX8_now B ad K 114 L (.int v :: r) σ := xr_iload_n dX8_now_113
theorem eX8_now_114 {x : Int32} : wX8_now B ad K 114 L (.int x :: r) σ ↔ (if x = 0 then wX8_now B ad K 127 L r σ else wX8_now B ad K 117 L r σ) := (xr_if_eq dX8_now_114 (by decide)).trans x_ite
theorem eX8_now_117 : wX8_now B ad K 117 L r σ ↔ ∃ v, L[0]? = some v ∧ x_rfv v ∧ wX8_now B ad K 118 L (v :: r) σ := xr_aload_n dX8_now_117
theorem eX8_now_118 {a : Nat} : wX8_now B ad K 118 L (.ref a :: r) σ ↔ ∃ fs v, σ.1 a = some (8, fs) ∧ fs[16]? = some v ∧ wX8_now B ad K 121 L (v :: r) σ := xr_getfield (t := 8) (j := 16) dX8_now_118 rfl
theorem eX8_now_121 : wX8_now B ad K 121 L r σ ↔ wX8_now B ad K 122 L (.int 0 :: r) σ := xr_iconst dX8_now_121 (by decide)
theorem eX8_now_122 {a : Nat} {x : Int32} : wX8_now B ad K 122 L (.int x :: .ref a :: r) σ ↔ ∃ t V v, σ.1 a = some (t, V) ∧ (t = 100 ∨ t = 106) ∧ x_ix x V = some v ∧ wX8_now B ad K 123 L (v :: r) σ := xr_iaload dX8_now_122
theorem eX8_now_123 {x : Int32} : wX8_now B ad K 123 L (.int x :: r) σ ↔ wX8_now B ad K 124 L (.long x.toInt64 :: r) σ := xr_i2l dX8_now_123
theorem eX8_now_124 : wX8_now B ad K 124 L r σ ↔ wX8_now B ad K 130 L r σ := xr_goto dX8_now_124 (by decide)
theorem eX8_now_127 : wX8_now B ad K 127 L r σ ↔ wX8_now B ad K 130 L (.long (-1) :: r) σ := xr_ldc2 dX8_now_127 rfl
theorem eX8_now_130 {x : Int64} : wX8_now B ad K 130 L [.long x] σ ↔ K (some (.long x)) σ := xr_lreturn dX8_now_130
theorem eX8_now_131 : wX8_now B ad K 131 L r σ ↔ ∃ v, L[2]? = some (.int v) ∧ wX8_now B ad K 132 L (.int v :: r) σ := xr_iload_n dX8_now_131
theorem eX8_now_132 {x : Int32} : wX8_now B ad K 132 L (.int x :: r) σ ↔ (if x = 0 then wX8_now B ad K 145 L r σ else wX8_now B ad K 135 L r σ) := (xr_if_eq dX8_now_132 (by decide)).trans x_ite
theorem eX8_now_135 : wX8_now B ad K 135 L r σ ↔ ∃ v, L[0]? = some v ∧ x_rfv v ∧ wX8_now B ad K 136 L (v :: r) σ := xr_aload_n dX8_now_135
theorem eX8_now_136 {a : Nat} : wX8_now B ad K 136 L (.ref a :: r) σ ↔ ∃ fs v, σ.1 a = some (8, fs) ∧ fs[17]? = some v ∧ wX8_now B ad K 139 L (v :: r) σ := xr_getfield (t := 8) (j := 17) dX8_now_136 rfl
theorem eX8_now_139 : wX8_now B ad K 139 L r σ ↔ wX8_now B ad K 140 L (.int 0 :: r) σ := xr_iconst dX8_now_139 (by decide)
theorem eX8_now_140 {a : Nat} {x : Int32} : wX8_now B ad K 140 L (.int x :: .ref a :: r) σ ↔ ∃ t V v, σ.1 a = some (t, V) ∧ (t = 100 ∨ t = 106) ∧ x_ix x V = some v ∧ wX8_now B ad K 141 L (v :: r) σ := xr_iaload dX8_now_140
theorem eX8_now_141 {x : Int32} : wX8_now B ad K 141 L (.int x :: r) σ ↔ wX8_now B ad K 142 L (.long x.toInt64 :: r) σ := xr_i2l dX8_now_141
theorem eX8_now_142 : wX8_now B ad K 142 L r σ ↔ wX8_now B ad K 146 L r σ := xr_goto dX8_now_142 (by decide)
theorem eX8_now_145 : wX8_now B ad K 145 L r σ ↔ wX8_now B ad K 146 L (.long 0 :: r) σ := xr_lconst dX8_now_145 (by decide)
theorem eX8_now_146 {x : Int64} : wX8_now B ad K 146 L [.long x] σ ↔ K (some (.long x)) σ := xr_lreturn dX8_now_146
theorem eX8_now_147 : wX8_now B ad K 147 L r σ ↔ wX8_now B ad K 150 L (.long (-1) :: r) σ := xr_ldc2 dX8_now_147 rfl
theorem eX8_now_150 {x : Int64} : wX8_now B ad K 150 L [.long x] σ ↔ K (some (.long x)) σ := xr_lreturn dX8_now_150
end
abbrev wX8_badness (B : Nat) (ad : Nat → Nat) (K : xK) : Nat → List Value → List Value → xW → Prop := x_WP B (some .int) (cxX8_badness B ad) cX8_badness K
section
variable {B : Nat} {ad : Nat → Nat} {K : xK} {L r : List Value} {σ : xW}
theorem eX8_badness_0 : wX8_badness B ad K 0 L r σ ↔ ∃ v, L[0]? = some v ∧ x_rfv v ∧ wX8_badness B ad K 1 L (v :: r) σ := xr_aload_n dX8_badness_0
theorem eX8_badness_1 : wX8_badness B ad K 1 L r σ ↔ wX8_badness B ad K 2 L (.int 0 :: r) σ := xr_iconst dX8_badness_1 (by decide)
theorem eX8_badness_2 {x : Int32} {a : Nat} : wX8_badness B ad K 2 L (.int x :: .ref a :: r) σ ↔ ∃ fs, σ.1 a = some (8, fs) ∧ 0 < fs.length ∧ B ≤ a ∧ wX8_badness B ad K 5 L r (x_up σ.1 a (8, fs.set 0 (.int x)), σ.2) := xr_put_i (t := 8) (j := 0) dX8_badness_2 rfl (by decide)
theorem eX8_badness_5 : wX8_badness B ad K 5 L r σ ↔ ∃ v, L[1]? = some (.int v) ∧ wX8_badness B ad K 6 L (.int v :: r) σ := xr_iload_n dX8_badness_5
theorem eX8_badness_6 {x : Int32} : wX8_badness B ad K 6 L (.int x :: r) σ ↔ (if x.toInt < 0 then wX8_badness B ad K 13 L r σ else wX8_badness B ad K 9 L r σ) := (xr_if_lt dX8_badness_6 (by decide)).trans x_ite
theorem eX8_badness_9 : wX8_badness B ad K 9 L r σ ↔ ∃ v, L[2]? = some (.int v) ∧ wX8_badness B ad K 10 L (.int v :: r) σ := xr_iload_n dX8_badness_9
theorem eX8_badness_10 {x : Int32} : wX8_badness B ad K 10 L (.int x :: r) σ ↔ (if x.toInt < 0 then wX8_badness B ad K 13 L r σ else wX8_badness B ad K 17 L r σ) := (xr_if_ge dX8_badness_10 (by decide)).trans x_ite
theorem eX8_badness_13 : wX8_badness B ad K 13 L r σ ↔ wX8_badness B ad K 14 L (.int (-1) :: r) σ := xr_iconst dX8_badness_13 (by decide)
theorem eX8_badness_14 : wX8_badness B ad K 14 L r σ ↔ wX8_badness B ad K 25 L r σ := xr_goto dX8_badness_14 (by decide)
theorem eX8_badness_17 : wX8_badness B ad K 17 L r σ ↔ ∃ v, L[1]? = some (.int v) ∧ wX8_badness B ad K 18 L (.int v :: r) σ := xr_iload_n dX8_badness_17
theorem eX8_badness_18 {x : Int32} : wX8_badness B ad K 18 L (.int x :: r) σ ↔ wX8_badness B ad K 19 L (.long x.toInt64 :: r) σ := xr_i2l dX8_badness_18
theorem eX8_badness_19 : wX8_badness B ad K 19 L r σ ↔ ∃ v, L[2]? = some (.int v) ∧ wX8_badness B ad K 20 L (.int v :: r) σ := xr_iload_n dX8_badness_19
theorem eX8_badness_20 {x : Int32} : wX8_badness B ad K 20 L (.int x :: r) σ ↔ wX8_badness B ad K 21 L (.long x.toInt64 :: r) σ := xr_i2l dX8_badness_20
theorem eX8_badness_21 {v0 v1 : Value} : wX8_badness B ad K 21 L (v1 :: v0 :: r) σ ↔ ((r.map fun v => v.category).sum ≤ 8 ∧ x_cl (eX8_bad B ad) [v0, v1] σ (fun v g => wX8_badness B ad K 24 L (v.toList ++ r) g)) := xr_callS [v0, v1] r dX8_badness_21 rfl
theorem eX8_badness_24 {x : Int64} : wX8_badness B ad K 24 L (.long x :: r) σ ↔ wX8_badness B ad K 25 L (.int x.toInt32 :: r) σ := xr_l2i dX8_badness_24
theorem eX8_badness_25 {x : Int32} : wX8_badness B ad K 25 L [.int x] σ ↔ K (some (.int x)) σ := xr_ireturn dX8_badness_25
end
abbrev wX8_count (B : Nat) (ad : Nat → Nat) (K : xK) : Nat → List Value → List Value → xW → Prop := x_WP B (some .int) (cxX8_count B ad) cX8_count K
section
variable {B : Nat} {ad : Nat → Nat} {K : xK} {L r : List Value} {σ : xW}
theorem eX8_count_0 : wX8_count B ad K 0 L r σ ↔ ∃ v, L[0]? = some v ∧ x_rfv v ∧ wX8_count B ad K 1 L (v :: r) σ := xr_aload_n dX8_count_0
theorem eX8_count_1 : wX8_count B ad K 1 L r σ ↔ wX8_count B ad K 2 L (.int 0 :: r) σ := xr_iconst dX8_count_1 (by decide)
theorem eX8_count_2 {x : Int32} {a : Nat} : wX8_count B ad K 2 L (.int x :: .ref a :: r) σ ↔ ∃ fs, σ.1 a = some (8, fs) ∧ 0 < fs.length ∧ B ≤ a ∧ wX8_count B ad K 5 L r (x_up σ.1 a (8, fs.set 0 (.int x)), σ.2) := xr_put_i (t := 8) (j := 0) dX8_count_2 rfl (by decide)
theorem eX8_count_5 : wX8_count B ad K 5 L r σ ↔ ∃ v, L[1]? = some (.int v) ∧ wX8_count B ad K 6 L (.int v :: r) σ := xr_iload_n dX8_count_5
theorem eX8_count_6 {x : Int32} : wX8_count B ad K 6 L (.int x :: r) σ ↔ (if x = 0 then wX8_count B ad K 9 L r σ else wX8_count B ad K 16 L r σ) := (xr_if_ne dX8_count_6 (by decide)).trans x_ite
theorem eX8_count_9 : wX8_count B ad K 9 L r σ ↔ ∃ v, L[0]? = some v ∧ x_rfv v ∧ wX8_count B ad K 10 L (v :: r) σ := xr_aload_n dX8_count_9
theorem eX8_count_10 {a : Nat} : wX8_count B ad K 10 L (.ref a :: r) σ ↔ ∃ fs v, σ.1 a = some (8, fs) ∧ fs[1]? = some v ∧ wX8_count B ad K 13 L (v :: r) σ := xr_getfield (t := 8) (j := 1) dX8_count_10 rfl
theorem eX8_count_13 : wX8_count B ad K 13 L r σ ↔ wX8_count B ad K 41 L r σ := xr_goto dX8_count_13 (by decide)
theorem eX8_count_16 : wX8_count B ad K 16 L r σ ↔ ∃ v, L[1]? = some (.int v) ∧ wX8_count B ad K 17 L (.int v :: r) σ := xr_iload_n dX8_count_16
theorem eX8_count_17 : wX8_count B ad K 17 L r σ ↔ wX8_count B ad K 18 L (.int 1 :: r) σ := xr_iconst dX8_count_17 (by decide)
theorem eX8_count_18 {x y : Int32} : wX8_count B ad K 18 L (.int y :: .int x :: r) σ ↔ (if x = y then wX8_count B ad K 21 L r σ else wX8_count B ad K 28 L r σ) := (xr_icmp_ne dX8_count_18 (by decide)).trans x_ite
theorem eX8_count_21 : wX8_count B ad K 21 L r σ ↔ ∃ v, L[0]? = some v ∧ x_rfv v ∧ wX8_count B ad K 22 L (v :: r) σ := xr_aload_n dX8_count_21
theorem eX8_count_22 {a : Nat} : wX8_count B ad K 22 L (.ref a :: r) σ ↔ ∃ fs v, σ.1 a = some (8, fs) ∧ fs[7]? = some v ∧ wX8_count B ad K 25 L (v :: r) σ := xr_getfield (t := 8) (j := 7) dX8_count_22 rfl
theorem eX8_count_25 : wX8_count B ad K 25 L r σ ↔ wX8_count B ad K 41 L r σ := xr_goto dX8_count_25 (by decide)
theorem eX8_count_28 : wX8_count B ad K 28 L r σ ↔ ∃ v, L[1]? = some (.int v) ∧ wX8_count B ad K 29 L (.int v :: r) σ := xr_iload_n dX8_count_28
theorem eX8_count_29 : wX8_count B ad K 29 L r σ ↔ wX8_count B ad K 30 L (.int 2 :: r) σ := xr_iconst dX8_count_29 (by decide)
theorem eX8_count_30 {x y : Int32} : wX8_count B ad K 30 L (.int y :: .int x :: r) σ ↔ (if x = y then wX8_count B ad K 33 L r σ else wX8_count B ad K 40 L r σ) := (xr_icmp_ne dX8_count_30 (by decide)).trans x_ite
theorem eX8_count_33 : wX8_count B ad K 33 L r σ ↔ ∃ v, L[0]? = some v ∧ x_rfv v ∧ wX8_count B ad K 34 L (v :: r) σ := xr_aload_n dX8_count_33
theorem eX8_count_34 {a : Nat} : wX8_count B ad K 34 L (.ref a :: r) σ ↔ ∃ fs v, σ.1 a = some (8, fs) ∧ fs[34]? = some v ∧ wX8_count B ad K 37 L (v :: r) σ := xr_getfield (t := 8) (j := 34) dX8_count_34 rfl
theorem eX8_count_37 : wX8_count B ad K 37 L r σ ↔ wX8_count B ad K 41 L r σ := xr_goto dX8_count_37 (by decide)
theorem eX8_count_40 : wX8_count B ad K 40 L r σ ↔ wX8_count B ad K 41 L (.int (-1) :: r) σ := xr_iconst dX8_count_40 (by decide)
theorem eX8_count_41 {x : Int32} : wX8_count B ad K 41 L [.int x] σ ↔ K (some (.int x)) σ := xr_ireturn dX8_count_41
end
abbrev wX8_check (B : Nat) (ad : Nat → Nat) (K : xK) : Nat → List Value → List Value → xW → Prop := x_WP B (some .int) (cxX8_check B ad) cX8_check K
section
variable {B : Nat} {ad : Nat → Nat} {K : xK} {L r : List Value} {σ : xW}
theorem eX8_check_0 : wX8_check B ad K 0 L r σ ↔ ∃ v, L[0]? = some v ∧ x_rfv v ∧ wX8_check B ad K 1 L (v :: r) σ := xr_aload_n dX8_check_0
theorem eX8_check_1 : wX8_check B ad K 1 L r σ ↔ wX8_check B ad K 2 L (.int 0 :: r) σ := xr_iconst dX8_check_1 (by decide)
theorem eX8_check_2 {x : Int32} {a : Nat} : wX8_check B ad K 2 L (.int x :: .ref a :: r) σ ↔ ∃ fs, σ.1 a = some (8, fs) ∧ 0 < fs.length ∧ B ≤ a ∧ wX8_check B ad K 5 L r (x_up σ.1 a (8, fs.set 0 (.int x)), σ.2) := xr_put_i (t := 8) (j := 0) dX8_check_2 rfl (by decide)
theorem eX8_check_5 : wX8_check B ad K 5 L r σ ↔ wX8_check B ad K 6 L (.int 1 :: r) σ := xr_iconst dX8_check_5 (by decide)
theorem eX8_check_6 {x : Int32} : wX8_check B ad K 6 L [.int x] σ ↔ K (some (.int x)) σ := xr_ireturn dX8_check_6
end
