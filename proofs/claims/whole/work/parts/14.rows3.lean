abbrev wX8_costAt (B : Nat) (ad : Nat → Nat) (K : xK) : Nat → List Value → List Value → xW → Prop := x_WP B (some .long) (cxX8_costAt B ad) cX8_costAt K
section
variable {B : Nat} {ad : Nat → Nat} {K : xK} {L r : List Value} {σ : xW}
theorem eX8_costAt_0 : wX8_costAt B ad K 0 L r σ ↔ ∃ v, L[0]? = some v ∧ x_rfv v ∧ wX8_costAt B ad K 1 L (v :: r) σ := xr_aload_n dX8_costAt_0
theorem eX8_costAt_1 {a : Nat} : wX8_costAt B ad K 1 L (.ref a :: r) σ ↔ ∃ fs v, σ.1 a = some (8, fs) ∧ fs[24]? = some v ∧ wX8_costAt B ad K 4 L (v :: r) σ := xr_getfield (t := 8) (j := 24) dX8_costAt_1 rfl
theorem eX8_costAt_4 : wX8_costAt B ad K 4 L r σ ↔ wX8_costAt B ad K 5 L (.int 0 :: r) σ := xr_iconst dX8_costAt_4 (by decide)
theorem eX8_costAt_5 {a : Nat} {x : Int32} : wX8_costAt B ad K 5 L (.int x :: .ref a :: r) σ ↔ ∃ V v, σ.1 a = some (101, V) ∧ x_ix x V = some v ∧ wX8_costAt B ad K 6 L (v :: r) σ := xr_laload dX8_costAt_5
theorem eX8_costAt_6 : wX8_costAt B ad K 6 L r σ ↔ ∃ v, L[0]? = some v ∧ x_rfv v ∧ wX8_costAt B ad K 7 L (v :: r) σ := xr_aload_n dX8_costAt_6
theorem eX8_costAt_7 {a : Nat} : wX8_costAt B ad K 7 L (.ref a :: r) σ ↔ ∃ fs v, σ.1 a = some (8, fs) ∧ fs[24]? = some v ∧ wX8_costAt B ad K 10 L (v :: r) σ := xr_getfield (t := 8) (j := 24) dX8_costAt_7 rfl
theorem eX8_costAt_10 : wX8_costAt B ad K 10 L r σ ↔ wX8_costAt B ad K 11 L (.int 1 :: r) σ := xr_iconst dX8_costAt_10 (by decide)
theorem eX8_costAt_11 {a : Nat} {x : Int32} : wX8_costAt B ad K 11 L (.int x :: .ref a :: r) σ ↔ ∃ V v, σ.1 a = some (101, V) ∧ x_ix x V = some v ∧ wX8_costAt B ad K 12 L (v :: r) σ := xr_laload dX8_costAt_11
theorem eX8_costAt_12 {x y : Int64} : wX8_costAt B ad K 12 L (.long y :: .long x :: r) σ ↔ wX8_costAt B ad K 13 L (.long (x - y) :: r) σ := xr_lsub dX8_costAt_12
theorem eX8_costAt_13 {v : Int64} : wX8_costAt B ad K 13 L (.long v :: r) σ ↔ (2 + 1 < L.length ∧ x_nl L 2 ∧ wX8_costAt B ad K 14 ((L.set 2 (.long v)).set (2 + 1) (.retAddr 0)) r σ) := xr_lstore_n dX8_costAt_13
theorem eX8_costAt_14 : wX8_costAt B ad K 14 L r σ ↔ ∃ v, L[2]? = some (.long v) ∧ wX8_costAt B ad K 15 L (.long v :: r) σ := xr_lload_n dX8_costAt_14
theorem eX8_costAt_15 : wX8_costAt B ad K 15 L r σ ↔ ∃ v, L[0]? = some v ∧ x_rfv v ∧ wX8_costAt B ad K 16 L (v :: r) σ := xr_aload_n dX8_costAt_15
theorem eX8_costAt_16 {a : Nat} : wX8_costAt B ad K 16 L (.ref a :: r) σ ↔ ∃ fs v, σ.1 a = some (8, fs) ∧ fs[24]? = some v ∧ wX8_costAt B ad K 19 L (v :: r) σ := xr_getfield (t := 8) (j := 24) dX8_costAt_16 rfl
theorem eX8_costAt_19 : wX8_costAt B ad K 19 L r σ ↔ wX8_costAt B ad K 21 L (.int 7 :: r) σ := xr_bipush dX8_costAt_19 (by decide)
theorem eX8_costAt_21 {a : Nat} {x : Int32} : wX8_costAt B ad K 21 L (.int x :: .ref a :: r) σ ↔ ∃ V v, σ.1 a = some (101, V) ∧ x_ix x V = some v ∧ wX8_costAt B ad K 22 L (v :: r) σ := xr_laload dX8_costAt_21
theorem eX8_costAt_22 {x y : Int64} : wX8_costAt B ad K 22 L (.long y :: .long x :: r) σ ↔ wX8_costAt B ad K 23 L (.int (lg_cmp x y) :: r) σ := xr_lcmp dX8_costAt_22
theorem eX8_costAt_23 {x : Int32} : wX8_costAt B ad K 23 L (.int x :: r) σ ↔ (if 0 < x.toInt then wX8_costAt B ad K 37 L r σ else wX8_costAt B ad K 26 L r σ) := (xr_if_gt dX8_costAt_23 (by decide)).trans x_ite
theorem eX8_costAt_26 : wX8_costAt B ad K 26 L r σ ↔ ∃ v, L[0]? = some v ∧ x_rfv v ∧ wX8_costAt B ad K 27 L (v :: r) σ := xr_aload_n dX8_costAt_26
theorem eX8_costAt_27 {a : Nat} : wX8_costAt B ad K 27 L (.ref a :: r) σ ↔ ∃ fs v, σ.1 a = some (8, fs) ∧ fs[27]? = some v ∧ wX8_costAt B ad K 30 L (v :: r) σ := xr_getfield (t := 8) (j := 27) dX8_costAt_27 rfl
theorem eX8_costAt_30 : wX8_costAt B ad K 30 L r σ ↔ wX8_costAt B ad K 33 L (.long 10000 :: r) σ := xr_ldc2 dX8_costAt_30 rfl
theorem eX8_costAt_33 {x y : Int64} : wX8_costAt B ad K 33 L (.long y :: .long x :: r) σ ↔ wX8_costAt B ad K 34 L (.int (lg_cmp x y) :: r) σ := xr_lcmp dX8_costAt_33
theorem eX8_costAt_34 {x : Int32} : wX8_costAt B ad K 34 L (.int x :: r) σ ↔ (if x.toInt < 0 then wX8_costAt B ad K 41 L r σ else wX8_costAt B ad K 37 L r σ) := (xr_if_lt dX8_costAt_34 (by decide)).trans x_ite
theorem eX8_costAt_37 : wX8_costAt B ad K 37 L r σ ↔ wX8_costAt B ad K 40 L (.long 1073741823 :: r) σ := xr_ldc2 dX8_costAt_37 rfl
theorem eX8_costAt_40 {x : Int64} : wX8_costAt B ad K 40 L [.long x] σ ↔ K (some (.long x)) σ := xr_lreturn dX8_costAt_40
theorem eX8_costAt_41 : wX8_costAt B ad K 41 L r σ ↔ ∃ v, L[1]? = some (.int v) ∧ wX8_costAt B ad K 42 L (.int v :: r) σ := xr_iload_n dX8_costAt_41
theorem eX8_costAt_42 : wX8_costAt B ad K 42 L r σ ↔ wX8_costAt B ad K 45 L (.int (-10000) :: r) σ := xr_sipush dX8_costAt_42 (by decide)
theorem eX8_costAt_45 {x y : Int32} : wX8_costAt B ad K 45 L (.int y :: .int x :: r) σ ↔ (if x = y then wX8_costAt B ad K 48 L r σ else wX8_costAt B ad K 51 L r σ) := (xr_icmp_ne dX8_costAt_45 (by decide)).trans x_ite
theorem eX8_costAt_48 : wX8_costAt B ad K 48 L r σ ↔ ∃ v, L[1]? = some (.int v) ∧ wX8_costAt B ad K 49 L (.int v :: r) σ := xr_iload_n dX8_costAt_48
theorem eX8_costAt_49 {x : Int32} : wX8_costAt B ad K 49 L (.int x :: r) σ ↔ wX8_costAt B ad K 50 L (.long x.toInt64 :: r) σ := xr_i2l dX8_costAt_49
theorem eX8_costAt_50 {x : Int64} : wX8_costAt B ad K 50 L [.long x] σ ↔ K (some (.long x)) σ := xr_lreturn dX8_costAt_50
theorem eX8_costAt_51 : wX8_costAt B ad K 51 L r σ ↔ ∃ v, L[0]? = some v ∧ x_rfv v ∧ wX8_costAt B ad K 52 L (v :: r) σ := xr_aload_n dX8_costAt_51
theorem eX8_costAt_52 {a : Nat} : wX8_costAt B ad K 52 L (.ref a :: r) σ ↔ ∃ fs v, σ.1 a = some (8, fs) ∧ fs[24]? = some v ∧ wX8_costAt B ad K 55 L (v :: r) σ := xr_getfield (t := 8) (j := 24) dX8_costAt_52 rfl
theorem eX8_costAt_55 : wX8_costAt B ad K 55 L r σ ↔ wX8_costAt B ad K 56 L (.int 4 :: r) σ := xr_iconst dX8_costAt_55 (by decide)
theorem eX8_costAt_56 {a : Nat} {x : Int32} : wX8_costAt B ad K 56 L (.int x :: .ref a :: r) σ ↔ ∃ V v, σ.1 a = some (101, V) ∧ x_ix x V = some v ∧ wX8_costAt B ad K 57 L (v :: r) σ := xr_laload dX8_costAt_56
theorem eX8_costAt_57 : wX8_costAt B ad K 57 L r σ ↔ wX8_costAt B ad K 58 L (.long 0 :: r) σ := xr_lconst dX8_costAt_57 (by decide)
theorem eX8_costAt_58 {x y : Int64} : wX8_costAt B ad K 58 L (.long y :: .long x :: r) σ ↔ wX8_costAt B ad K 59 L (.int (lg_cmp x y) :: r) σ := xr_lcmp dX8_costAt_58
theorem eX8_costAt_59 {x : Int32} : wX8_costAt B ad K 59 L (.int x :: r) σ ↔ (if x = 0 then wX8_costAt B ad K 62 L r σ else wX8_costAt B ad K 85 L r σ) := (xr_if_ne dX8_costAt_59 (by decide)).trans x_ite
theorem eX8_costAt_62 : wX8_costAt B ad K 62 L r σ ↔ ∃ v, L[0]? = some v ∧ x_rfv v ∧ wX8_costAt B ad K 63 L (v :: r) σ := xr_aload_n dX8_costAt_62
theorem eX8_costAt_63 {a : Nat} : wX8_costAt B ad K 63 L (.ref a :: r) σ ↔ ∃ fs v, σ.1 a = some (8, fs) ∧ fs[24]? = some v ∧ wX8_costAt B ad K 66 L (v :: r) σ := xr_getfield (t := 8) (j := 24) dX8_costAt_63 rfl
theorem eX8_costAt_66 : wX8_costAt B ad K 66 L r σ ↔ wX8_costAt B ad K 67 L (.int 5 :: r) σ := xr_iconst dX8_costAt_66 (by decide)
theorem eX8_costAt_67 {a : Nat} {x : Int32} : wX8_costAt B ad K 67 L (.int x :: .ref a :: r) σ ↔ ∃ V v, σ.1 a = some (101, V) ∧ x_ix x V = some v ∧ wX8_costAt B ad K 68 L (v :: r) σ := xr_laload dX8_costAt_67
theorem eX8_costAt_68 : wX8_costAt B ad K 68 L r σ ↔ wX8_costAt B ad K 69 L (.long 0 :: r) σ := xr_lconst dX8_costAt_68 (by decide)
theorem eX8_costAt_69 {x y : Int64} : wX8_costAt B ad K 69 L (.long y :: .long x :: r) σ ↔ wX8_costAt B ad K 70 L (.int (lg_cmp x y) :: r) σ := xr_lcmp dX8_costAt_69
theorem eX8_costAt_70 {x : Int32} : wX8_costAt B ad K 70 L (.int x :: r) σ ↔ (if x = 0 then wX8_costAt B ad K 73 L r σ else wX8_costAt B ad K 85 L r σ) := (xr_if_ne dX8_costAt_70 (by decide)).trans x_ite
theorem eX8_costAt_73 : wX8_costAt B ad K 73 L r σ ↔ ∃ v, L[0]? = some v ∧ x_rfv v ∧ wX8_costAt B ad K 74 L (v :: r) σ := xr_aload_n dX8_costAt_73
theorem eX8_costAt_74 {a : Nat} : wX8_costAt B ad K 74 L (.ref a :: r) σ ↔ ∃ fs v, σ.1 a = some (8, fs) ∧ fs[24]? = some v ∧ wX8_costAt B ad K 77 L (v :: r) σ := xr_getfield (t := 8) (j := 24) dX8_costAt_74 rfl
theorem eX8_costAt_77 : wX8_costAt B ad K 77 L r σ ↔ wX8_costAt B ad K 79 L (.int 6 :: r) σ := xr_bipush dX8_costAt_77 (by decide)
theorem eX8_costAt_79 {a : Nat} {x : Int32} : wX8_costAt B ad K 79 L (.int x :: .ref a :: r) σ ↔ ∃ V v, σ.1 a = some (101, V) ∧ x_ix x V = some v ∧ wX8_costAt B ad K 80 L (v :: r) σ := xr_laload dX8_costAt_79
theorem eX8_costAt_80 : wX8_costAt B ad K 80 L r σ ↔ wX8_costAt B ad K 81 L (.long 0 :: r) σ := xr_lconst dX8_costAt_80 (by decide)
theorem eX8_costAt_81 {x y : Int64} : wX8_costAt B ad K 81 L (.long y :: .long x :: r) σ ↔ wX8_costAt B ad K 82 L (.int (lg_cmp x y) :: r) σ := xr_lcmp dX8_costAt_81
theorem eX8_costAt_82 {x : Int32} : wX8_costAt B ad K 82 L (.int x :: r) σ ↔ (if x = 0 then wX8_costAt B ad K 89 L r σ else wX8_costAt B ad K 85 L r σ) := (xr_if_eq dX8_costAt_82 (by decide)).trans x_ite
theorem eX8_costAt_85 : wX8_costAt B ad K 85 L r σ ↔ wX8_costAt B ad K 86 L (.int 1 :: r) σ := xr_iconst dX8_costAt_85 (by decide)
theorem eX8_costAt_86 : wX8_costAt B ad K 86 L r σ ↔ wX8_costAt B ad K 90 L r σ := xr_goto dX8_costAt_86 (by decide)
theorem eX8_costAt_89 : wX8_costAt B ad K 89 L r σ ↔ wX8_costAt B ad K 90 L (.int 0 :: r) σ := xr_iconst dX8_costAt_89 (by decide)
theorem eX8_costAt_90 {v : Int32} : wX8_costAt B ad K 90 L (.int v :: r) σ ↔ (4 < L.length ∧ x_nl L 4 ∧ wX8_costAt B ad K 92 (L.set 4 (.int v)) r σ) := xr_istore dX8_costAt_90
theorem eX8_costAt_92 : wX8_costAt B ad K 92 L r σ ↔ ∃ v, L[2]? = some (.long v) ∧ wX8_costAt B ad K 93 L (.long v :: r) σ := xr_lload_n dX8_costAt_92
theorem eX8_costAt_93 : wX8_costAt B ad K 93 L r σ ↔ wX8_costAt B ad K 94 L (.long 0 :: r) σ := xr_lconst dX8_costAt_93 (by decide)
theorem eX8_costAt_94 {x y : Int64} : wX8_costAt B ad K 94 L (.long y :: .long x :: r) σ ↔ wX8_costAt B ad K 95 L (.int (lg_cmp x y) :: r) σ := xr_lcmp dX8_costAt_94
theorem eX8_costAt_95 {x : Int32} : wX8_costAt B ad K 95 L (.int x :: r) σ ↔ (if x.toInt < 0 then wX8_costAt B ad K 112 L r σ else wX8_costAt B ad K 98 L r σ) := (xr_if_lt dX8_costAt_95 (by decide)).trans x_ite
theorem eX8_costAt_98 : wX8_costAt B ad K 98 L r σ ↔ ∃ v, L[2]? = some (.long v) ∧ wX8_costAt B ad K 99 L (.long v :: r) σ := xr_lload_n dX8_costAt_98
theorem eX8_costAt_99 : wX8_costAt B ad K 99 L r σ ↔ ∃ v, L[0]? = some v ∧ x_rfv v ∧ wX8_costAt B ad K 100 L (v :: r) σ := xr_aload_n dX8_costAt_99
theorem eX8_costAt_100 {a : Nat} : wX8_costAt B ad K 100 L (.ref a :: r) σ ↔ ∃ fs v, σ.1 a = some (8, fs) ∧ fs[24]? = some v ∧ wX8_costAt B ad K 103 L (v :: r) σ := xr_getfield (t := 8) (j := 24) dX8_costAt_100 rfl
theorem eX8_costAt_103 : wX8_costAt B ad K 103 L r σ ↔ wX8_costAt B ad K 105 L (.int 7 :: r) σ := xr_bipush dX8_costAt_103 (by decide)
theorem eX8_costAt_105 {a : Nat} {x : Int32} : wX8_costAt B ad K 105 L (.int x :: .ref a :: r) σ ↔ ∃ V v, σ.1 a = some (101, V) ∧ x_ix x V = some v ∧ wX8_costAt B ad K 106 L (v :: r) σ := xr_laload dX8_costAt_105
theorem eX8_costAt_106 {v0 v1 : Value} : wX8_costAt B ad K 106 L (v1 :: v0 :: r) σ ↔ ((r.map fun v => v.category).sum ≤ 8 ∧ x_cl (eX8_bad B ad) [v0, v1] σ (fun v g => wX8_costAt B ad K 109 L (v.toList ++ r) g)) := xr_callS [v0, v1] r dX8_costAt_106 rfl
theorem eX8_costAt_109 : wX8_costAt B ad K 109 L r σ ↔ wX8_costAt B ad K 132 L r σ := xr_goto dX8_costAt_109 (by decide)
theorem eX8_costAt_112 : wX8_costAt B ad K 112 L r σ ↔ ∃ v, L[4]? = some (.int v) ∧ wX8_costAt B ad K 114 L (.int v :: r) σ := xr_iload dX8_costAt_112
theorem eX8_costAt_114 {x : Int32} : wX8_costAt B ad K 114 L (.int x :: r) σ ↔ (if x = 0 then wX8_costAt B ad K 121 L r σ else wX8_costAt B ad K 117 L r σ) := (xr_if_eq dX8_costAt_114 (by decide)).trans x_ite
theorem eX8_costAt_117 : wX8_costAt B ad K 117 L r σ ↔ wX8_costAt B ad K 118 L (.long 0 :: r) σ := xr_lconst dX8_costAt_117 (by decide)
theorem eX8_costAt_118 : wX8_costAt B ad K 118 L r σ ↔ wX8_costAt B ad K 132 L r σ := xr_goto dX8_costAt_118 (by decide)
theorem eX8_costAt_121 : wX8_costAt B ad K 121 L r σ ↔ ∃ v, L[2]? = some (.long v) ∧ wX8_costAt B ad K 122 L (.long v :: r) σ := xr_lload_n dX8_costAt_121
theorem eX8_costAt_122 {x : Int64} : wX8_costAt B ad K 122 L (.long x :: r) σ ↔ wX8_costAt B ad K 123 L (.long (-x) :: r) σ := xr_lneg dX8_costAt_122
theorem eX8_costAt_123 : wX8_costAt B ad K 123 L r σ ↔ ∃ v, L[0]? = some v ∧ x_rfv v ∧ wX8_costAt B ad K 124 L (v :: r) σ := xr_aload_n dX8_costAt_123
theorem eX8_costAt_124 {a : Nat} : wX8_costAt B ad K 124 L (.ref a :: r) σ ↔ ∃ fs v, σ.1 a = some (8, fs) ∧ fs[24]? = some v ∧ wX8_costAt B ad K 127 L (v :: r) σ := xr_getfield (t := 8) (j := 24) dX8_costAt_124 rfl
theorem eX8_costAt_127 : wX8_costAt B ad K 127 L r σ ↔ wX8_costAt B ad K 128 L (.int 3 :: r) σ := xr_iconst dX8_costAt_127 (by decide)
theorem eX8_costAt_128 {a : Nat} {x : Int32} : wX8_costAt B ad K 128 L (.int x :: .ref a :: r) σ ↔ ∃ V v, σ.1 a = some (101, V) ∧ x_ix x V = some v ∧ wX8_costAt B ad K 129 L (v :: r) σ := xr_laload dX8_costAt_128
theorem eX8_costAt_129 {v0 v1 : Value} : wX8_costAt B ad K 129 L (v1 :: v0 :: r) σ ↔ ((r.map fun v => v.category).sum ≤ 8 ∧ x_cl (eX8_bad B ad) [v0, v1] σ (fun v g => wX8_costAt B ad K 132 L (v.toList ++ r) g)) := xr_callS [v0, v1] r dX8_costAt_129 rfl
theorem eX8_costAt_132 {v : Int64} : wX8_costAt B ad K 132 L (.long v :: r) σ ↔ (5 + 1 < L.length ∧ x_nl L 5 ∧ wX8_costAt B ad K 134 ((L.set 5 (.long v)).set (5 + 1) (.retAddr 0)) r σ) := xr_lstore dX8_costAt_132
theorem eX8_costAt_134 : wX8_costAt B ad K 134 L r σ ↔ ∃ v, L[5]? = some (.long v) ∧ wX8_costAt B ad K 136 L (.long v :: r) σ := xr_lload dX8_costAt_134
theorem eX8_costAt_136 : wX8_costAt B ad K 136 L r σ ↔ wX8_costAt B ad K 139 L (.long 10000 :: r) σ := xr_ldc2 dX8_costAt_136 rfl
theorem eX8_costAt_139 {x y : Int64} : wX8_costAt B ad K 139 L (.long y :: .long x :: r) σ ↔ wX8_costAt B ad K 140 L (.int (lg_cmp x y) :: r) σ := xr_lcmp dX8_costAt_139
theorem eX8_costAt_140 {x : Int32} : wX8_costAt B ad K 140 L (.int x :: r) σ ↔ (if x.toInt < 0 then wX8_costAt B ad K 143 L r σ else wX8_costAt B ad K 156 L r σ) := (xr_if_ge dX8_costAt_140 (by decide)).trans x_ite
theorem eX8_costAt_143 : wX8_costAt B ad K 143 L r σ ↔ ∃ v, L[5]? = some (.long v) ∧ wX8_costAt B ad K 145 L (.long v :: r) σ := xr_lload dX8_costAt_143
theorem eX8_costAt_145 : wX8_costAt B ad K 145 L r σ ↔ ∃ v, L[1]? = some (.int v) ∧ wX8_costAt B ad K 146 L (.int v :: r) σ := xr_iload_n dX8_costAt_145
theorem eX8_costAt_146 {x : Int32} : wX8_costAt B ad K 146 L (.int x :: r) σ ↔ wX8_costAt B ad K 147 L (.long x.toInt64 :: r) σ := xr_i2l dX8_costAt_146
theorem eX8_costAt_147 {x y : Int64} : wX8_costAt B ad K 147 L (.long y :: .long x :: r) σ ↔ wX8_costAt B ad K 148 L (.long (x + y) :: r) σ := xr_ladd dX8_costAt_147
theorem eX8_costAt_148 : wX8_costAt B ad K 148 L r σ ↔ ∃ v, L[0]? = some v ∧ x_rfv v ∧ wX8_costAt B ad K 149 L (v :: r) σ := xr_aload_n dX8_costAt_148
theorem eX8_costAt_149 {a : Nat} : wX8_costAt B ad K 149 L (.ref a :: r) σ ↔ ∃ fs v, σ.1 a = some (8, fs) ∧ fs[27]? = some v ∧ wX8_costAt B ad K 152 L (v :: r) σ := xr_getfield (t := 8) (j := 27) dX8_costAt_149 rfl
theorem eX8_costAt_152 {x y : Int64} : wX8_costAt B ad K 152 L (.long y :: .long x :: r) σ ↔ wX8_costAt B ad K 153 L (.long (x + y) :: r) σ := xr_ladd dX8_costAt_152
theorem eX8_costAt_153 : wX8_costAt B ad K 153 L r σ ↔ wX8_costAt B ad K 159 L r σ := xr_goto dX8_costAt_153 (by decide)
theorem eX8_costAt_156 : wX8_costAt B ad K 156 L r σ ↔ wX8_costAt B ad K 159 L (.long 100000 :: r) σ := xr_ldc2 dX8_costAt_156 rfl
theorem eX8_costAt_159 {x : Int64} : wX8_costAt B ad K 159 L [.long x] σ ↔ K (some (.long x)) σ := xr_lreturn dX8_costAt_159
end
abbrev wX8_isPlace (B : Nat) (ad : Nat → Nat) (K : xK) : Nat → List Value → List Value → xW → Prop := x_WP B (some .boolean) (cxX8_isPlace B ad) cX8_isPlace K
section
variable {B : Nat} {ad : Nat → Nat} {K : xK} {L r : List Value} {σ : xW}
theorem eX8_isPlace_0 : wX8_isPlace B ad K 0 L r σ ↔ ∃ v, L[0]? = some v ∧ x_rfv v ∧ wX8_isPlace B ad K 1 L (v :: r) σ := xr_aload_n dX8_isPlace_0
theorem eX8_isPlace_1 {a : Nat} : wX8_isPlace B ad K 1 L (.ref a :: r) σ ↔ ∃ fs v, σ.1 a = some (8, fs) ∧ fs[16]? = some v ∧ wX8_isPlace B ad K 4 L (v :: r) σ := xr_getfield (t := 8) (j := 16) dX8_isPlace_1 rfl
theorem eX8_isPlace_4 : wX8_isPlace B ad K 4 L r σ ↔ wX8_isPlace B ad K 5 L (.int 0 :: r) σ := xr_iconst dX8_isPlace_4 (by decide)
theorem eX8_isPlace_5 {a : Nat} {x : Int32} : wX8_isPlace B ad K 5 L (.int x :: .ref a :: r) σ ↔ ∃ t V v, σ.1 a = some (t, V) ∧ (t = 100 ∨ t = 106) ∧ x_ix x V = some v ∧ wX8_isPlace B ad K 6 L (v :: r) σ := xr_iaload dX8_isPlace_5
theorem eX8_isPlace_6 {v : Int32} : wX8_isPlace B ad K 6 L (.int v :: r) σ ↔ (1 < L.length ∧ x_nl L 1 ∧ wX8_isPlace B ad K 7 (L.set 1 (.int v)) r σ) := xr_istore_n dX8_isPlace_6
theorem eX8_isPlace_7 : wX8_isPlace B ad K 7 L r σ ↔ ∃ v, L[0]? = some v ∧ x_rfv v ∧ wX8_isPlace B ad K 8 L (v :: r) σ := xr_aload_n dX8_isPlace_7
theorem eX8_isPlace_8 {a : Nat} : wX8_isPlace B ad K 8 L (.ref a :: r) σ ↔ ∃ fs v, σ.1 a = some (8, fs) ∧ fs[2]? = some v ∧ wX8_isPlace B ad K 11 L (v :: r) σ := xr_getfield (t := 8) (j := 2) dX8_isPlace_8 rfl
theorem eX8_isPlace_11 : wX8_isPlace B ad K 11 L r σ ↔ ∃ v, L[1]? = some (.int v) ∧ wX8_isPlace B ad K 12 L (.int v :: r) σ := xr_iload_n dX8_isPlace_11
theorem eX8_isPlace_12 {a : Nat} {x : Int32} : wX8_isPlace B ad K 12 L (.int x :: .ref a :: r) σ ↔ ∃ t V v, σ.1 a = some (t, V) ∧ (t = 100 ∨ t = 106) ∧ x_ix x V = some v ∧ wX8_isPlace B ad K 13 L (v :: r) σ := xr_iaload dX8_isPlace_12
theorem eX8_isPlace_13 : wX8_isPlace B ad K 13 L r σ ↔ wX8_isPlace B ad K 14 L (.int 1 :: r) σ := xr_iconst dX8_isPlace_13 (by decide)
theorem eX8_isPlace_14 {x y : Int32} : wX8_isPlace B ad K 14 L (.int y :: .int x :: r) σ ↔ (if x = y then wX8_isPlace B ad K 17 L r σ else wX8_isPlace B ad K 54 L r σ) := (xr_icmp_ne dX8_isPlace_14 (by decide)).trans x_ite
theorem eX8_isPlace_17 : wX8_isPlace B ad K 17 L r σ ↔ ∃ v, L[0]? = some v ∧ x_rfv v ∧ wX8_isPlace B ad K 18 L (v :: r) σ := xr_aload_n dX8_isPlace_17
theorem eX8_isPlace_18 {a : Nat} : wX8_isPlace B ad K 18 L (.ref a :: r) σ ↔ ∃ fs v, σ.1 a = some (8, fs) ∧ fs[2]? = some v ∧ wX8_isPlace B ad K 21 L (v :: r) σ := xr_getfield (t := 8) (j := 2) dX8_isPlace_18 rfl
theorem eX8_isPlace_21 : wX8_isPlace B ad K 21 L r σ ↔ ∃ v, L[0]? = some v ∧ x_rfv v ∧ wX8_isPlace B ad K 22 L (v :: r) σ := xr_aload_n dX8_isPlace_21
theorem eX8_isPlace_22 {a : Nat} : wX8_isPlace B ad K 22 L (.ref a :: r) σ ↔ ∃ fs v, σ.1 a = some (8, fs) ∧ fs[19]? = some v ∧ wX8_isPlace B ad K 25 L (v :: r) σ := xr_getfield (t := 8) (j := 19) dX8_isPlace_22 rfl
theorem eX8_isPlace_25 : wX8_isPlace B ad K 25 L r σ ↔ ∃ v, L[0]? = some v ∧ x_rfv v ∧ wX8_isPlace B ad K 26 L (v :: r) σ := xr_aload_n dX8_isPlace_25
theorem eX8_isPlace_26 {a : Nat} : wX8_isPlace B ad K 26 L (.ref a :: r) σ ↔ ∃ fs v, σ.1 a = some (8, fs) ∧ fs[18]? = some v ∧ wX8_isPlace B ad K 29 L (v :: r) σ := xr_getfield (t := 8) (j := 18) dX8_isPlace_26 rfl
theorem eX8_isPlace_29 : wX8_isPlace B ad K 29 L r σ ↔ wX8_isPlace B ad K 30 L (.int 1 :: r) σ := xr_iconst dX8_isPlace_29 (by decide)
theorem eX8_isPlace_30 {x y : Int32} : wX8_isPlace B ad K 30 L (.int y :: .int x :: r) σ ↔ wX8_isPlace B ad K 31 L (.int (x - y) :: r) σ := xr_isub dX8_isPlace_30
theorem eX8_isPlace_31 {a : Nat} {x : Int32} : wX8_isPlace B ad K 31 L (.int x :: .ref a :: r) σ ↔ ∃ t V v, σ.1 a = some (t, V) ∧ (t = 100 ∨ t = 106) ∧ x_ix x V = some v ∧ wX8_isPlace B ad K 32 L (v :: r) σ := xr_iaload dX8_isPlace_31
theorem eX8_isPlace_32 {a : Nat} {x : Int32} : wX8_isPlace B ad K 32 L (.int x :: .ref a :: r) σ ↔ ∃ t V v, σ.1 a = some (t, V) ∧ (t = 100 ∨ t = 106) ∧ x_ix x V = some v ∧ wX8_isPlace B ad K 33 L (v :: r) σ := xr_iaload dX8_isPlace_32
theorem eX8_isPlace_33 {v : Int32} : wX8_isPlace B ad K 33 L (.int v :: r) σ ↔ (2 < L.length ∧ x_nl L 2 ∧ wX8_isPlace B ad K 34 (L.set 2 (.int v)) r σ) := xr_istore_n dX8_isPlace_33
theorem eX8_isPlace_34 : wX8_isPlace B ad K 34 L r σ ↔ ∃ v, L[2]? = some (.int v) ∧ wX8_isPlace B ad K 35 L (.int v :: r) σ := xr_iload_n dX8_isPlace_34
theorem eX8_isPlace_35 {x : Int32} : wX8_isPlace B ad K 35 L (.int x :: r) σ ↔ (if x = 0 then wX8_isPlace B ad K 48 L r σ else wX8_isPlace B ad K 38 L r σ) := (xr_if_eq dX8_isPlace_35 (by decide)).trans x_ite
theorem eX8_isPlace_38 : wX8_isPlace B ad K 38 L r σ ↔ ∃ v, L[2]? = some (.int v) ∧ wX8_isPlace B ad K 39 L (.int v :: r) σ := xr_iload_n dX8_isPlace_38
theorem eX8_isPlace_39 : wX8_isPlace B ad K 39 L r σ ↔ wX8_isPlace B ad K 40 L (.int 4 :: r) σ := xr_iconst dX8_isPlace_39 (by decide)
theorem eX8_isPlace_40 {x y : Int32} : wX8_isPlace B ad K 40 L (.int y :: .int x :: r) σ ↔ (if x = y then wX8_isPlace B ad K 48 L r σ else wX8_isPlace B ad K 43 L r σ) := (xr_icmp_eq dX8_isPlace_40 (by decide)).trans x_ite
theorem eX8_isPlace_43 : wX8_isPlace B ad K 43 L r σ ↔ ∃ v, L[2]? = some (.int v) ∧ wX8_isPlace B ad K 44 L (.int v :: r) σ := xr_iload_n dX8_isPlace_43
theorem eX8_isPlace_44 : wX8_isPlace B ad K 44 L r σ ↔ wX8_isPlace B ad K 45 L (.int 5 :: r) σ := xr_iconst dX8_isPlace_44 (by decide)
theorem eX8_isPlace_45 {x y : Int32} : wX8_isPlace B ad K 45 L (.int y :: .int x :: r) σ ↔ (if x = y then wX8_isPlace B ad K 48 L r σ else wX8_isPlace B ad K 52 L r σ) := (xr_icmp_ne dX8_isPlace_45 (by decide)).trans x_ite
theorem eX8_isPlace_48 : wX8_isPlace B ad K 48 L r σ ↔ wX8_isPlace B ad K 49 L (.int 1 :: r) σ := xr_iconst dX8_isPlace_48 (by decide)
theorem eX8_isPlace_49 : wX8_isPlace B ad K 49 L r σ ↔ wX8_isPlace B ad K 53 L r σ := xr_goto dX8_isPlace_49 (by decide)
theorem eX8_isPlace_52 : wX8_isPlace B ad K 52 L r σ ↔ wX8_isPlace B ad K 53 L (.int 0 :: r) σ := xr_iconst dX8_isPlace_52 (by decide)
theorem eX8_isPlace_53 {x : Int32} : wX8_isPlace B ad K 53 L [.int x] σ ↔ ((x = 0 ∨ x = 1) ∧ K (some (.int x)) σ) := xr_zreturn dX8_isPlace_53
theorem eX8_isPlace_54 : wX8_isPlace B ad K 54 L r σ ↔ ∃ v, L[0]? = some v ∧ x_rfv v ∧ wX8_isPlace B ad K 55 L (v :: r) σ := xr_aload_n dX8_isPlace_54
theorem eX8_isPlace_55 {a : Nat} : wX8_isPlace B ad K 55 L (.ref a :: r) σ ↔ ∃ fs v, σ.1 a = some (8, fs) ∧ fs[2]? = some v ∧ wX8_isPlace B ad K 58 L (v :: r) σ := xr_getfield (t := 8) (j := 2) dX8_isPlace_55 rfl
theorem eX8_isPlace_58 : wX8_isPlace B ad K 58 L r σ ↔ ∃ v, L[1]? = some (.int v) ∧ wX8_isPlace B ad K 59 L (.int v :: r) σ := xr_iload_n dX8_isPlace_58
theorem eX8_isPlace_59 {a : Nat} {x : Int32} : wX8_isPlace B ad K 59 L (.int x :: .ref a :: r) σ ↔ ∃ t V v, σ.1 a = some (t, V) ∧ (t = 100 ∨ t = 106) ∧ x_ix x V = some v ∧ wX8_isPlace B ad K 60 L (v :: r) σ := xr_iaload dX8_isPlace_59
theorem eX8_isPlace_60 : wX8_isPlace B ad K 60 L r σ ↔ wX8_isPlace B ad K 61 L (.int 2 :: r) σ := xr_iconst dX8_isPlace_60 (by decide)
theorem eX8_isPlace_61 {x y : Int32} : wX8_isPlace B ad K 61 L (.int y :: .int x :: r) σ ↔ (if x = y then wX8_isPlace B ad K 64 L r σ else wX8_isPlace B ad K 87 L r σ) := (xr_icmp_ne dX8_isPlace_61 (by decide)).trans x_ite
theorem eX8_isPlace_64 : wX8_isPlace B ad K 64 L r σ ↔ ∃ v, L[0]? = some v ∧ x_rfv v ∧ wX8_isPlace B ad K 65 L (v :: r) σ := xr_aload_n dX8_isPlace_64
theorem eX8_isPlace_65 {a : Nat} : wX8_isPlace B ad K 65 L (.ref a :: r) σ ↔ ∃ fs v, σ.1 a = some (8, fs) ∧ fs[2]? = some v ∧ wX8_isPlace B ad K 68 L (v :: r) σ := xr_getfield (t := 8) (j := 2) dX8_isPlace_65 rfl
theorem eX8_isPlace_68 : wX8_isPlace B ad K 68 L r σ ↔ ∃ v, L[0]? = some v ∧ x_rfv v ∧ wX8_isPlace B ad K 69 L (v :: r) σ := xr_aload_n dX8_isPlace_68
theorem eX8_isPlace_69 {a : Nat} : wX8_isPlace B ad K 69 L (.ref a :: r) σ ↔ ∃ fs v, σ.1 a = some (8, fs) ∧ fs[16]? = some v ∧ wX8_isPlace B ad K 72 L (v :: r) σ := xr_getfield (t := 8) (j := 16) dX8_isPlace_69 rfl
theorem eX8_isPlace_72 : wX8_isPlace B ad K 72 L r σ ↔ wX8_isPlace B ad K 73 L (.int 1 :: r) σ := xr_iconst dX8_isPlace_72 (by decide)
theorem eX8_isPlace_73 {a : Nat} {x : Int32} : wX8_isPlace B ad K 73 L (.int x :: .ref a :: r) σ ↔ ∃ t V v, σ.1 a = some (t, V) ∧ (t = 100 ∨ t = 106) ∧ x_ix x V = some v ∧ wX8_isPlace B ad K 74 L (v :: r) σ := xr_iaload dX8_isPlace_73
theorem eX8_isPlace_74 {a : Nat} {x : Int32} : wX8_isPlace B ad K 74 L (.int x :: .ref a :: r) σ ↔ ∃ t V v, σ.1 a = some (t, V) ∧ (t = 100 ∨ t = 106) ∧ x_ix x V = some v ∧ wX8_isPlace B ad K 75 L (v :: r) σ := xr_iaload dX8_isPlace_74
theorem eX8_isPlace_75 : wX8_isPlace B ad K 75 L r σ ↔ wX8_isPlace B ad K 76 L (.int 1 :: r) σ := xr_iconst dX8_isPlace_75 (by decide)
theorem eX8_isPlace_76 {x y : Int32} : wX8_isPlace B ad K 76 L (.int y :: .int x :: r) σ ↔ (if x = y then wX8_isPlace B ad K 79 L r σ else wX8_isPlace B ad K 83 L r σ) := (xr_icmp_ne dX8_isPlace_76 (by decide)).trans x_ite
theorem eX8_isPlace_79 : wX8_isPlace B ad K 79 L r σ ↔ wX8_isPlace B ad K 80 L (.int 1 :: r) σ := xr_iconst dX8_isPlace_79 (by decide)
theorem eX8_isPlace_80 : wX8_isPlace B ad K 80 L r σ ↔ wX8_isPlace B ad K 114 L r σ := xr_goto dX8_isPlace_80 (by decide)
theorem eX8_isPlace_83 : wX8_isPlace B ad K 83 L r σ ↔ wX8_isPlace B ad K 84 L (.int 0 :: r) σ := xr_iconst dX8_isPlace_83 (by decide)
theorem eX8_isPlace_84 : wX8_isPlace B ad K 84 L r σ ↔ wX8_isPlace B ad K 114 L r σ := xr_goto dX8_isPlace_84 (by decide)
theorem eX8_isPlace_87 : wX8_isPlace B ad K 87 L r σ ↔ ∃ v, L[0]? = some v ∧ x_rfv v ∧ wX8_isPlace B ad K 88 L (v :: r) σ := xr_aload_n dX8_isPlace_87
theorem eX8_isPlace_88 {a : Nat} : wX8_isPlace B ad K 88 L (.ref a :: r) σ ↔ ∃ fs v, σ.1 a = some (8, fs) ∧ fs[2]? = some v ∧ wX8_isPlace B ad K 91 L (v :: r) σ := xr_getfield (t := 8) (j := 2) dX8_isPlace_88 rfl
theorem eX8_isPlace_91 : wX8_isPlace B ad K 91 L r σ ↔ ∃ v, L[1]? = some (.int v) ∧ wX8_isPlace B ad K 92 L (.int v :: r) σ := xr_iload_n dX8_isPlace_91
theorem eX8_isPlace_92 {a : Nat} {x : Int32} : wX8_isPlace B ad K 92 L (.int x :: .ref a :: r) σ ↔ ∃ t V v, σ.1 a = some (t, V) ∧ (t = 100 ∨ t = 106) ∧ x_ix x V = some v ∧ wX8_isPlace B ad K 93 L (v :: r) σ := xr_iaload dX8_isPlace_92
theorem eX8_isPlace_93 : wX8_isPlace B ad K 93 L r σ ↔ wX8_isPlace B ad K 94 L (.int 3 :: r) σ := xr_iconst dX8_isPlace_93 (by decide)
theorem eX8_isPlace_94 {x y : Int32} : wX8_isPlace B ad K 94 L (.int y :: .int x :: r) σ ↔ (if x = y then wX8_isPlace B ad K 97 L r σ else wX8_isPlace B ad K 113 L r σ) := (xr_icmp_ne dX8_isPlace_94 (by decide)).trans x_ite
theorem eX8_isPlace_97 : wX8_isPlace B ad K 97 L r σ ↔ ∃ v, L[0]? = some v ∧ x_rfv v ∧ wX8_isPlace B ad K 98 L (v :: r) σ := xr_aload_n dX8_isPlace_97
theorem eX8_isPlace_98 {a : Nat} : wX8_isPlace B ad K 98 L (.ref a :: r) σ ↔ ∃ fs v, σ.1 a = some (8, fs) ∧ fs[3]? = some v ∧ wX8_isPlace B ad K 101 L (v :: r) σ := xr_getfield (t := 8) (j := 3) dX8_isPlace_98 rfl
theorem eX8_isPlace_101 : wX8_isPlace B ad K 101 L r σ ↔ ∃ v, L[1]? = some (.int v) ∧ wX8_isPlace B ad K 102 L (.int v :: r) σ := xr_iload_n dX8_isPlace_101
theorem eX8_isPlace_102 {a : Nat} {x : Int32} : wX8_isPlace B ad K 102 L (.int x :: .ref a :: r) σ ↔ ∃ t V v, σ.1 a = some (t, V) ∧ (t = 100 ∨ t = 106) ∧ x_ix x V = some v ∧ wX8_isPlace B ad K 103 L (v :: r) σ := xr_iaload dX8_isPlace_102
theorem eX8_isPlace_103 : wX8_isPlace B ad K 103 L r σ ↔ wX8_isPlace B ad K 106 L (.int 10000 :: r) σ := xr_sipush dX8_isPlace_103 (by decide)
theorem eX8_isPlace_106 {x y : Int32} : wX8_isPlace B ad K 106 L (.int y :: .int x :: r) σ ↔ (if x.toInt < y.toInt then wX8_isPlace B ad K 109 L r σ else wX8_isPlace B ad K 113 L r σ) := (xr_icmp_ge dX8_isPlace_106 (by decide)).trans x_ite
theorem eX8_isPlace_109 : wX8_isPlace B ad K 109 L r σ ↔ wX8_isPlace B ad K 110 L (.int 1 :: r) σ := xr_iconst dX8_isPlace_109 (by decide)
theorem eX8_isPlace_110 : wX8_isPlace B ad K 110 L r σ ↔ wX8_isPlace B ad K 114 L r σ := xr_goto dX8_isPlace_110 (by decide)
theorem eX8_isPlace_113 : wX8_isPlace B ad K 113 L r σ ↔ wX8_isPlace B ad K 114 L (.int 0 :: r) σ := xr_iconst dX8_isPlace_113 (by decide)
theorem eX8_isPlace_114 {x : Int32} : wX8_isPlace B ad K 114 L [.int x] σ ↔ ((x = 0 ∨ x = 1) ∧ K (some (.int x)) σ) := xr_zreturn dX8_isPlace_114
end
abbrev wX8_ends (B : Nat) (ad : Nat → Nat) (K : xK) : Nat → List Value → List Value → xW → Prop := x_WP B (some .boolean) (cxX8_ends B ad) cX8_ends K
section
variable {B : Nat} {ad : Nat → Nat} {K : xK} {L r : List Value} {σ : xW}
theorem eX8_ends_0 : wX8_ends B ad K 0 L r σ ↔ ∃ v, L[0]? = some v ∧ x_rfv v ∧ wX8_ends B ad K 1 L (v :: r) σ := xr_aload_n dX8_ends_0
theorem eX8_ends_1 {a : Nat} : wX8_ends B ad K 1 L (.ref a :: r) σ ↔ ∃ fs v, σ.1 a = some (8, fs) ∧ fs[16]? = some v ∧ wX8_ends B ad K 4 L (v :: r) σ := xr_getfield (t := 8) (j := 16) dX8_ends_1 rfl
theorem eX8_ends_4 : wX8_ends B ad K 4 L r σ ↔ wX8_ends B ad K 5 L (.int 0 :: r) σ := xr_iconst dX8_ends_4 (by decide)
theorem eX8_ends_5 {a : Nat} {x : Int32} : wX8_ends B ad K 5 L (.int x :: .ref a :: r) σ ↔ ∃ t V v, σ.1 a = some (t, V) ∧ (t = 100 ∨ t = 106) ∧ x_ix x V = some v ∧ wX8_ends B ad K 6 L (v :: r) σ := xr_iaload dX8_ends_5
theorem eX8_ends_6 {v : Int32} : wX8_ends B ad K 6 L (.int v :: r) σ ↔ (1 < L.length ∧ x_nl L 1 ∧ wX8_ends B ad K 7 (L.set 1 (.int v)) r σ) := xr_istore_n dX8_ends_6
theorem eX8_ends_7 : wX8_ends B ad K 7 L r σ ↔ ∃ v, L[0]? = some v ∧ x_rfv v ∧ wX8_ends B ad K 8 L (v :: r) σ := xr_aload_n dX8_ends_7
theorem eX8_ends_8 {a : Nat} : wX8_ends B ad K 8 L (.ref a :: r) σ ↔ ∃ fs v, σ.1 a = some (8, fs) ∧ fs[2]? = some v ∧ wX8_ends B ad K 11 L (v :: r) σ := xr_getfield (t := 8) (j := 2) dX8_ends_8 rfl
theorem eX8_ends_11 : wX8_ends B ad K 11 L r σ ↔ ∃ v, L[1]? = some (.int v) ∧ wX8_ends B ad K 12 L (.int v :: r) σ := xr_iload_n dX8_ends_11
theorem eX8_ends_12 {a : Nat} {x : Int32} : wX8_ends B ad K 12 L (.int x :: .ref a :: r) σ ↔ ∃ t V v, σ.1 a = some (t, V) ∧ (t = 100 ∨ t = 106) ∧ x_ix x V = some v ∧ wX8_ends B ad K 13 L (v :: r) σ := xr_iaload dX8_ends_12
theorem eX8_ends_13 : wX8_ends B ad K 13 L r σ ↔ wX8_ends B ad K 14 L (.int 3 :: r) σ := xr_iconst dX8_ends_13 (by decide)
theorem eX8_ends_14 {x y : Int32} : wX8_ends B ad K 14 L (.int y :: .int x :: r) σ ↔ (if x = y then wX8_ends B ad K 17 L r σ else wX8_ends B ad K 26 L r σ) := (xr_icmp_ne dX8_ends_14 (by decide)).trans x_ite
theorem eX8_ends_17 : wX8_ends B ad K 17 L r σ ↔ ∃ v, L[0]? = some v ∧ x_rfv v ∧ wX8_ends B ad K 18 L (v :: r) σ := xr_aload_n dX8_ends_17
theorem eX8_ends_18 {a : Nat} : wX8_ends B ad K 18 L (.ref a :: r) σ ↔ ∃ fs v, σ.1 a = some (8, fs) ∧ fs[3]? = some v ∧ wX8_ends B ad K 21 L (v :: r) σ := xr_getfield (t := 8) (j := 3) dX8_ends_18 rfl
theorem eX8_ends_21 : wX8_ends B ad K 21 L r σ ↔ ∃ v, L[1]? = some (.int v) ∧ wX8_ends B ad K 22 L (.int v :: r) σ := xr_iload_n dX8_ends_21
theorem eX8_ends_22 {a : Nat} {x : Int32} : wX8_ends B ad K 22 L (.int x :: .ref a :: r) σ ↔ ∃ t V v, σ.1 a = some (t, V) ∧ (t = 100 ∨ t = 106) ∧ x_ix x V = some v ∧ wX8_ends B ad K 23 L (v :: r) σ := xr_iaload dX8_ends_22
theorem eX8_ends_23 : wX8_ends B ad K 23 L r σ ↔ wX8_ends B ad K 27 L r σ := xr_goto dX8_ends_23 (by decide)
theorem eX8_ends_26 : wX8_ends B ad K 26 L r σ ↔ wX8_ends B ad K 27 L (.int 0 :: r) σ := xr_iconst dX8_ends_26 (by decide)
theorem eX8_ends_27 {v : Int32} : wX8_ends B ad K 27 L (.int v :: r) σ ↔ (2 < L.length ∧ x_nl L 2 ∧ wX8_ends B ad K 28 (L.set 2 (.int v)) r σ) := xr_istore_n dX8_ends_27
theorem eX8_ends_28 : wX8_ends B ad K 28 L r σ ↔ ∃ v, L[0]? = some v ∧ x_rfv v ∧ wX8_ends B ad K 29 L (v :: r) σ := xr_aload_n dX8_ends_28
theorem eX8_ends_29 : wX8_ends B ad K 29 L r σ ↔ ∃ v, L[2]? = some (.int v) ∧ wX8_ends B ad K 30 L (.int v :: r) σ := xr_iload_n dX8_ends_29
theorem eX8_ends_30 {v0 v1 : Value} : wX8_ends B ad K 30 L (v1 :: v0 :: r) σ ↔ ((r.map fun v => v.category).sum ≤ 8 ∧ x_cl (x_v 8 (eX8_costAt B ad)) [v0, v1] σ (fun v g => wX8_ends B ad K 33 L (v.toList ++ r) g)) := xr_callV [v0, v1] r dX8_ends_30 rfl
theorem eX8_ends_33 {v : Int64} : wX8_ends B ad K 33 L (.long v :: r) σ ↔ (3 + 1 < L.length ∧ x_nl L 3 ∧ wX8_ends B ad K 34 ((L.set 3 (.long v)).set (3 + 1) (.retAddr 0)) r σ) := xr_lstore_n dX8_ends_33
theorem eX8_ends_34 : wX8_ends B ad K 34 L r σ ↔ ∃ v, L[0]? = some v ∧ x_rfv v ∧ wX8_ends B ad K 35 L (v :: r) σ := xr_aload_n dX8_ends_34
theorem eX8_ends_35 {a : Nat} : wX8_ends B ad K 35 L (.ref a :: r) σ ↔ ∃ fs v, σ.1 a = some (8, fs) ∧ fs[30]? = some v ∧ wX8_ends B ad K 38 L (v :: r) σ := xr_getfield (t := 8) (j := 30) dX8_ends_35 rfl
theorem eX8_ends_38 {x : Int32} : wX8_ends B ad K 38 L (.int x :: r) σ ↔ (if x = 0 then wX8_ends B ad K 50 L r σ else wX8_ends B ad K 41 L r σ) := (xr_if_eq dX8_ends_38 (by decide)).trans x_ite
theorem eX8_ends_41 : wX8_ends B ad K 41 L r σ ↔ ∃ v, L[3]? = some (.long v) ∧ wX8_ends B ad K 42 L (.long v :: r) σ := xr_lload_n dX8_ends_41
theorem eX8_ends_42 : wX8_ends B ad K 42 L r σ ↔ ∃ v, L[0]? = some v ∧ x_rfv v ∧ wX8_ends B ad K 43 L (v :: r) σ := xr_aload_n dX8_ends_42
theorem eX8_ends_43 {a : Nat} : wX8_ends B ad K 43 L (.ref a :: r) σ ↔ ∃ fs v, σ.1 a = some (8, fs) ∧ fs[32]? = some v ∧ wX8_ends B ad K 46 L (v :: r) σ := xr_getfield (t := 8) (j := 32) dX8_ends_43 rfl
theorem eX8_ends_46 {x y : Int64} : wX8_ends B ad K 46 L (.long y :: .long x :: r) σ ↔ wX8_ends B ad K 47 L (.int (lg_cmp x y) :: r) σ := xr_lcmp dX8_ends_46
theorem eX8_ends_47 {x : Int32} : wX8_ends B ad K 47 L (.int x :: r) σ ↔ (if 0 < x.toInt then wX8_ends B ad K 106 L r σ else wX8_ends B ad K 50 L r σ) := (xr_if_gt dX8_ends_47 (by decide)).trans x_ite
theorem eX8_ends_50 : wX8_ends B ad K 50 L r σ ↔ ∃ v, L[0]? = some v ∧ x_rfv v ∧ wX8_ends B ad K 51 L (v :: r) σ := xr_aload_n dX8_ends_50
theorem eX8_ends_51 : wX8_ends B ad K 51 L r σ ↔ wX8_ends B ad K 52 L (.int 1 :: r) σ := xr_iconst dX8_ends_51 (by decide)
theorem eX8_ends_52 {x : Int32} {a : Nat} : wX8_ends B ad K 52 L (.int x :: .ref a :: r) σ ↔ ∃ fs, σ.1 a = some (8, fs) ∧ 30 < fs.length ∧ B ≤ a ∧ (x = 0 ∨ x = 1) ∧ wX8_ends B ad K 55 L r (x_up σ.1 a (8, fs.set 30 (.int x)), σ.2) := xr_put_z (t := 8) (j := 30) dX8_ends_52 rfl (by decide)
theorem eX8_ends_55 : wX8_ends B ad K 55 L r σ ↔ ∃ v, L[0]? = some v ∧ x_rfv v ∧ wX8_ends B ad K 56 L (v :: r) σ := xr_aload_n dX8_ends_55
theorem eX8_ends_56 : wX8_ends B ad K 56 L r σ ↔ ∃ v, L[0]? = some v ∧ x_rfv v ∧ wX8_ends B ad K 57 L (v :: r) σ := xr_aload_n dX8_ends_56
theorem eX8_ends_57 {a : Nat} : wX8_ends B ad K 57 L (.ref a :: r) σ ↔ ∃ fs v, σ.1 a = some (8, fs) ∧ fs[18]? = some v ∧ wX8_ends B ad K 60 L (v :: r) σ := xr_getfield (t := 8) (j := 18) dX8_ends_57 rfl
theorem eX8_ends_60 {x : Int32} {a : Nat} : wX8_ends B ad K 60 L (.int x :: .ref a :: r) σ ↔ ∃ fs, σ.1 a = some (8, fs) ∧ 31 < fs.length ∧ B ≤ a ∧ wX8_ends B ad K 63 L r (x_up σ.1 a (8, fs.set 31 (.int x)), σ.2) := xr_put_i (t := 8) (j := 31) dX8_ends_60 rfl (by decide)
theorem eX8_ends_63 : wX8_ends B ad K 63 L r σ ↔ ∃ v, L[0]? = some v ∧ x_rfv v ∧ wX8_ends B ad K 64 L (v :: r) σ := xr_aload_n dX8_ends_63
theorem eX8_ends_64 : wX8_ends B ad K 64 L r σ ↔ ∃ v, L[3]? = some (.long v) ∧ wX8_ends B ad K 65 L (.long v :: r) σ := xr_lload_n dX8_ends_64
theorem eX8_ends_65 {x : Int64} {a : Nat} : wX8_ends B ad K 65 L (.long x :: .ref a :: r) σ ↔ ∃ fs, σ.1 a = some (8, fs) ∧ 32 < fs.length ∧ B ≤ a ∧ wX8_ends B ad K 68 L r (x_up σ.1 a (8, fs.set 32 (.long x)), σ.2) := xr_put_l (t := 8) (j := 32) dX8_ends_65 rfl (by decide)
theorem eX8_ends_68 : wX8_ends B ad K 68 L r σ ↔ ∃ v, L[0]? = some v ∧ x_rfv v ∧ wX8_ends B ad K 69 L (v :: r) σ := xr_aload_n dX8_ends_68
theorem eX8_ends_69 : wX8_ends B ad K 69 L r σ ↔ ∃ v, L[2]? = some (.int v) ∧ wX8_ends B ad K 70 L (.int v :: r) σ := xr_iload_n dX8_ends_69
theorem eX8_ends_70 {x : Int32} {a : Nat} : wX8_ends B ad K 70 L (.int x :: .ref a :: r) σ ↔ ∃ fs, σ.1 a = some (8, fs) ∧ 33 < fs.length ∧ B ≤ a ∧ wX8_ends B ad K 73 L r (x_up σ.1 a (8, fs.set 33 (.int x)), σ.2) := xr_put_i (t := 8) (j := 33) dX8_ends_70 rfl (by decide)
theorem eX8_ends_73 : wX8_ends B ad K 73 L r σ ↔ wX8_ends B ad K 74 L (.int 0 :: r) σ := xr_iconst dX8_ends_73 (by decide)
theorem eX8_ends_74 {v : Int32} : wX8_ends B ad K 74 L (.int v :: r) σ ↔ (5 < L.length ∧ x_nl L 5 ∧ wX8_ends B ad K 76 (L.set 5 (.int v)) r σ) := xr_istore dX8_ends_74
theorem eX8_ends_76 : wX8_ends B ad K 76 L r σ ↔ ∃ v, L[5]? = some (.int v) ∧ wX8_ends B ad K 78 L (.int v :: r) σ := xr_iload dX8_ends_76
theorem eX8_ends_78 : wX8_ends B ad K 78 L r σ ↔ wX8_ends B ad K 80 L (.int 12 :: r) σ := xr_bipush dX8_ends_78 (by decide)
theorem eX8_ends_80 {x y : Int32} : wX8_ends B ad K 80 L (.int y :: .int x :: r) σ ↔ (if x.toInt < y.toInt then wX8_ends B ad K 83 L r σ else wX8_ends B ad K 106 L r σ) := (xr_icmp_ge dX8_ends_80 (by decide)).trans x_ite
theorem eX8_ends_83 : wX8_ends B ad K 83 L r σ ↔ ∃ v, L[0]? = some v ∧ x_rfv v ∧ wX8_ends B ad K 84 L (v :: r) σ := xr_aload_n dX8_ends_83
theorem eX8_ends_84 {a : Nat} : wX8_ends B ad K 84 L (.ref a :: r) σ ↔ ∃ fs v, σ.1 a = some (8, fs) ∧ fs[24]? = some v ∧ wX8_ends B ad K 87 L (v :: r) σ := xr_getfield (t := 8) (j := 24) dX8_ends_84 rfl
theorem eX8_ends_87 : wX8_ends B ad K 87 L r σ ↔ wX8_ends B ad K 89 L (.int 12 :: r) σ := xr_bipush dX8_ends_87 (by decide)
theorem eX8_ends_89 : wX8_ends B ad K 89 L r σ ↔ ∃ v, L[5]? = some (.int v) ∧ wX8_ends B ad K 91 L (.int v :: r) σ := xr_iload dX8_ends_89
theorem eX8_ends_91 {x y : Int32} : wX8_ends B ad K 91 L (.int y :: .int x :: r) σ ↔ wX8_ends B ad K 92 L (.int (x + y) :: r) σ := xr_iadd dX8_ends_91
theorem eX8_ends_92 : wX8_ends B ad K 92 L r σ ↔ ∃ v, L[0]? = some v ∧ x_rfv v ∧ wX8_ends B ad K 93 L (v :: r) σ := xr_aload_n dX8_ends_92
theorem eX8_ends_93 {a : Nat} : wX8_ends B ad K 93 L (.ref a :: r) σ ↔ ∃ fs v, σ.1 a = some (8, fs) ∧ fs[24]? = some v ∧ wX8_ends B ad K 96 L (v :: r) σ := xr_getfield (t := 8) (j := 24) dX8_ends_93 rfl
theorem eX8_ends_96 : wX8_ends B ad K 96 L r σ ↔ ∃ v, L[5]? = some (.int v) ∧ wX8_ends B ad K 98 L (.int v :: r) σ := xr_iload dX8_ends_96
theorem eX8_ends_98 {a : Nat} {x : Int32} : wX8_ends B ad K 98 L (.int x :: .ref a :: r) σ ↔ ∃ V v, σ.1 a = some (101, V) ∧ x_ix x V = some v ∧ wX8_ends B ad K 99 L (v :: r) σ := xr_laload dX8_ends_98
theorem eX8_ends_99 {a : Nat} {j : Int32} {x : Int64} : wX8_ends B ad K 99 L (.long x :: .int j :: .ref a :: r) σ ↔ ∃ V, σ.1 a = some (101, V) ∧ (x_ix j V).isSome ∧ B ≤ a ∧ wX8_ends B ad K 100 L r (x_up σ.1 a (101, V.set j.toInt.toNat (.long x)), σ.2) := xr_lastore dX8_ends_99
theorem eX8_ends_100 : wX8_ends B ad K 100 L r σ ↔ ∃ v, L[5]? = some (.int v) ∧ x_nl L 5 ∧ wX8_ends B ad K 103 (L.set 5 (.int (v + 1))) r σ := xr_iinc dX8_ends_100 (by decide)
theorem eX8_ends_103 : wX8_ends B ad K 103 L r σ ↔ wX8_ends B ad K 76 L r σ := xr_goto dX8_ends_103 (by decide)
theorem eX8_ends_106 : wX8_ends B ad K 106 L r σ ↔ ∃ v, L[3]? = some (.long v) ∧ wX8_ends B ad K 107 L (.long v :: r) σ := xr_lload_n dX8_ends_106
theorem eX8_ends_107 : wX8_ends B ad K 107 L r σ ↔ wX8_ends B ad K 110 L (.long 1073741823 :: r) σ := xr_ldc2 dX8_ends_107 rfl
theorem eX8_ends_110 {x y : Int64} : wX8_ends B ad K 110 L (.long y :: .long x :: r) σ ↔ wX8_ends B ad K 111 L (.int (lg_cmp x y) :: r) σ := xr_lcmp dX8_ends_110
theorem eX8_ends_111 {x : Int32} : wX8_ends B ad K 111 L (.int x :: r) σ ↔ (if x = 0 then wX8_ends B ad K 121 L r σ else wX8_ends B ad K 114 L r σ) := (xr_if_eq dX8_ends_111 (by decide)).trans x_ite
theorem eX8_ends_114 : wX8_ends B ad K 114 L r σ ↔ ∃ v, L[2]? = some (.int v) ∧ wX8_ends B ad K 115 L (.int v :: r) σ := xr_iload_n dX8_ends_114
theorem eX8_ends_115 : wX8_ends B ad K 115 L r σ ↔ wX8_ends B ad K 118 L (.int (-10000) :: r) σ := xr_sipush dX8_ends_115 (by decide)
theorem eX8_ends_118 {x y : Int32} : wX8_ends B ad K 118 L (.int y :: .int x :: r) σ ↔ (if x = y then wX8_ends B ad K 121 L r σ else wX8_ends B ad K 125 L r σ) := (xr_icmp_ne dX8_ends_118 (by decide)).trans x_ite
theorem eX8_ends_121 : wX8_ends B ad K 121 L r σ ↔ wX8_ends B ad K 122 L (.int 1 :: r) σ := xr_iconst dX8_ends_121 (by decide)
theorem eX8_ends_122 : wX8_ends B ad K 122 L r σ ↔ wX8_ends B ad K 126 L r σ := xr_goto dX8_ends_122 (by decide)
theorem eX8_ends_125 : wX8_ends B ad K 125 L r σ ↔ wX8_ends B ad K 126 L (.int 0 :: r) σ := xr_iconst dX8_ends_125 (by decide)
theorem eX8_ends_126 {x : Int32} : wX8_ends B ad K 126 L [.int x] σ ↔ ((x = 0 ∨ x = 1) ∧ K (some (.int x)) σ) := xr_zreturn dX8_ends_126
end
abbrev wX8_takeFromLine (B : Nat) (ad : Nat → Nat) (K : xK) : Nat → List Value → List Value → xW → Prop := x_WP B none (cxX8_takeFromLine B ad) cX8_takeFromLine K
section
variable {B : Nat} {ad : Nat → Nat} {K : xK} {L r : List Value} {σ : xW}
theorem eX8_takeFromLine_0 : wX8_takeFromLine B ad K 0 L r σ ↔ ∃ v, L[0]? = some v ∧ x_rfv v ∧ wX8_takeFromLine B ad K 1 L (v :: r) σ := xr_aload_n dX8_takeFromLine_0
theorem eX8_takeFromLine_1 {v : Value} : wX8_takeFromLine B ad K 1 L (v :: r) σ ↔ (v.category = 1 ∧ wX8_takeFromLine B ad K 2 L (v :: v :: r) σ) := xr_dup dX8_takeFromLine_1
theorem eX8_takeFromLine_2 {a : Nat} : wX8_takeFromLine B ad K 2 L (.ref a :: r) σ ↔ ∃ fs v, σ.1 a = some (8, fs) ∧ fs[15]? = some v ∧ wX8_takeFromLine B ad K 5 L (v :: r) σ := xr_getfield (t := 8) (j := 15) dX8_takeFromLine_2 rfl
theorem eX8_takeFromLine_5 : wX8_takeFromLine B ad K 5 L r σ ↔ wX8_takeFromLine B ad K 6 L (.int 1 :: r) σ := xr_iconst dX8_takeFromLine_5 (by decide)
theorem eX8_takeFromLine_6 {x y : Int32} : wX8_takeFromLine B ad K 6 L (.int y :: .int x :: r) σ ↔ wX8_takeFromLine B ad K 7 L (.int (x - y) :: r) σ := xr_isub dX8_takeFromLine_6
theorem eX8_takeFromLine_7 {x : Int32} {a : Nat} : wX8_takeFromLine B ad K 7 L (.int x :: .ref a :: r) σ ↔ ∃ fs, σ.1 a = some (8, fs) ∧ 15 < fs.length ∧ B ≤ a ∧ wX8_takeFromLine B ad K 10 L r (x_up σ.1 a (8, fs.set 15 (.int x)), σ.2) := xr_put_i (t := 8) (j := 15) dX8_takeFromLine_7 rfl (by decide)
theorem eX8_takeFromLine_10 : wX8_takeFromLine B ad K 10 L r σ ↔ wX8_takeFromLine B ad K 11 L (.int 0 :: r) σ := xr_iconst dX8_takeFromLine_10 (by decide)
theorem eX8_takeFromLine_11 {v : Int32} : wX8_takeFromLine B ad K 11 L (.int v :: r) σ ↔ (1 < L.length ∧ x_nl L 1 ∧ wX8_takeFromLine B ad K 12 (L.set 1 (.int v)) r σ) := xr_istore_n dX8_takeFromLine_11
theorem eX8_takeFromLine_12 : wX8_takeFromLine B ad K 12 L r σ ↔ ∃ v, L[1]? = some (.int v) ∧ wX8_takeFromLine B ad K 13 L (.int v :: r) σ := xr_iload_n dX8_takeFromLine_12
theorem eX8_takeFromLine_13 : wX8_takeFromLine B ad K 13 L r σ ↔ ∃ v, L[0]? = some v ∧ x_rfv v ∧ wX8_takeFromLine B ad K 14 L (v :: r) σ := xr_aload_n dX8_takeFromLine_13
theorem eX8_takeFromLine_14 {a : Nat} : wX8_takeFromLine B ad K 14 L (.ref a :: r) σ ↔ ∃ fs v, σ.1 a = some (8, fs) ∧ fs[15]? = some v ∧ wX8_takeFromLine B ad K 17 L (v :: r) σ := xr_getfield (t := 8) (j := 15) dX8_takeFromLine_14 rfl
theorem eX8_takeFromLine_17 {x y : Int32} : wX8_takeFromLine B ad K 17 L (.int y :: .int x :: r) σ ↔ (if x.toInt < y.toInt then wX8_takeFromLine B ad K 20 L r σ else wX8_takeFromLine B ad K 54 L r σ) := (xr_icmp_ge dX8_takeFromLine_17 (by decide)).trans x_ite
theorem eX8_takeFromLine_20 : wX8_takeFromLine B ad K 20 L r σ ↔ ∃ v, L[0]? = some v ∧ x_rfv v ∧ wX8_takeFromLine B ad K 21 L (v :: r) σ := xr_aload_n dX8_takeFromLine_20
theorem eX8_takeFromLine_21 {a : Nat} : wX8_takeFromLine B ad K 21 L (.ref a :: r) σ ↔ ∃ fs v, σ.1 a = some (8, fs) ∧ fs[16]? = some v ∧ wX8_takeFromLine B ad K 24 L (v :: r) σ := xr_getfield (t := 8) (j := 16) dX8_takeFromLine_21 rfl
theorem eX8_takeFromLine_24 : wX8_takeFromLine B ad K 24 L r σ ↔ ∃ v, L[1]? = some (.int v) ∧ wX8_takeFromLine B ad K 25 L (.int v :: r) σ := xr_iload_n dX8_takeFromLine_24
theorem eX8_takeFromLine_25 : wX8_takeFromLine B ad K 25 L r σ ↔ ∃ v, L[0]? = some v ∧ x_rfv v ∧ wX8_takeFromLine B ad K 26 L (v :: r) σ := xr_aload_n dX8_takeFromLine_25
theorem eX8_takeFromLine_26 {a : Nat} : wX8_takeFromLine B ad K 26 L (.ref a :: r) σ ↔ ∃ fs v, σ.1 a = some (8, fs) ∧ fs[16]? = some v ∧ wX8_takeFromLine B ad K 29 L (v :: r) σ := xr_getfield (t := 8) (j := 16) dX8_takeFromLine_26 rfl
theorem eX8_takeFromLine_29 : wX8_takeFromLine B ad K 29 L r σ ↔ ∃ v, L[1]? = some (.int v) ∧ wX8_takeFromLine B ad K 30 L (.int v :: r) σ := xr_iload_n dX8_takeFromLine_29
theorem eX8_takeFromLine_30 : wX8_takeFromLine B ad K 30 L r σ ↔ wX8_takeFromLine B ad K 31 L (.int 1 :: r) σ := xr_iconst dX8_takeFromLine_30 (by decide)
theorem eX8_takeFromLine_31 {x y : Int32} : wX8_takeFromLine B ad K 31 L (.int y :: .int x :: r) σ ↔ wX8_takeFromLine B ad K 32 L (.int (x + y) :: r) σ := xr_iadd dX8_takeFromLine_31
theorem eX8_takeFromLine_32 {a : Nat} {x : Int32} : wX8_takeFromLine B ad K 32 L (.int x :: .ref a :: r) σ ↔ ∃ t V v, σ.1 a = some (t, V) ∧ (t = 100 ∨ t = 106) ∧ x_ix x V = some v ∧ wX8_takeFromLine B ad K 33 L (v :: r) σ := xr_iaload dX8_takeFromLine_32
theorem eX8_takeFromLine_33 {a : Nat} {j : Int32} {x : Int32} : wX8_takeFromLine B ad K 33 L (.int x :: .int j :: .ref a :: r) σ ↔ ∃ V, σ.1 a = some (100, V) ∧ (x_ix j V).isSome ∧ B ≤ a ∧ wX8_takeFromLine B ad K 34 L r (x_up σ.1 a (100, V.set j.toInt.toNat (.int x)), σ.2) := xr_iastore dX8_takeFromLine_33
theorem eX8_takeFromLine_34 : wX8_takeFromLine B ad K 34 L r σ ↔ ∃ v, L[0]? = some v ∧ x_rfv v ∧ wX8_takeFromLine B ad K 35 L (v :: r) σ := xr_aload_n dX8_takeFromLine_34
theorem eX8_takeFromLine_35 {a : Nat} : wX8_takeFromLine B ad K 35 L (.ref a :: r) σ ↔ ∃ fs v, σ.1 a = some (8, fs) ∧ fs[17]? = some v ∧ wX8_takeFromLine B ad K 38 L (v :: r) σ := xr_getfield (t := 8) (j := 17) dX8_takeFromLine_35 rfl
theorem eX8_takeFromLine_38 : wX8_takeFromLine B ad K 38 L r σ ↔ ∃ v, L[1]? = some (.int v) ∧ wX8_takeFromLine B ad K 39 L (.int v :: r) σ := xr_iload_n dX8_takeFromLine_38
theorem eX8_takeFromLine_39 : wX8_takeFromLine B ad K 39 L r σ ↔ ∃ v, L[0]? = some v ∧ x_rfv v ∧ wX8_takeFromLine B ad K 40 L (v :: r) σ := xr_aload_n dX8_takeFromLine_39
theorem eX8_takeFromLine_40 {a : Nat} : wX8_takeFromLine B ad K 40 L (.ref a :: r) σ ↔ ∃ fs v, σ.1 a = some (8, fs) ∧ fs[17]? = some v ∧ wX8_takeFromLine B ad K 43 L (v :: r) σ := xr_getfield (t := 8) (j := 17) dX8_takeFromLine_40 rfl
theorem eX8_takeFromLine_43 : wX8_takeFromLine B ad K 43 L r σ ↔ ∃ v, L[1]? = some (.int v) ∧ wX8_takeFromLine B ad K 44 L (.int v :: r) σ := xr_iload_n dX8_takeFromLine_43
theorem eX8_takeFromLine_44 : wX8_takeFromLine B ad K 44 L r σ ↔ wX8_takeFromLine B ad K 45 L (.int 1 :: r) σ := xr_iconst dX8_takeFromLine_44 (by decide)
theorem eX8_takeFromLine_45 {x y : Int32} : wX8_takeFromLine B ad K 45 L (.int y :: .int x :: r) σ ↔ wX8_takeFromLine B ad K 46 L (.int (x + y) :: r) σ := xr_iadd dX8_takeFromLine_45
theorem eX8_takeFromLine_46 {a : Nat} {x : Int32} : wX8_takeFromLine B ad K 46 L (.int x :: .ref a :: r) σ ↔ ∃ t V v, σ.1 a = some (t, V) ∧ (t = 100 ∨ t = 106) ∧ x_ix x V = some v ∧ wX8_takeFromLine B ad K 47 L (v :: r) σ := xr_iaload dX8_takeFromLine_46
theorem eX8_takeFromLine_47 {a : Nat} {j : Int32} {x : Int32} : wX8_takeFromLine B ad K 47 L (.int x :: .int j :: .ref a :: r) σ ↔ ∃ V, σ.1 a = some (100, V) ∧ (x_ix j V).isSome ∧ B ≤ a ∧ wX8_takeFromLine B ad K 48 L r (x_up σ.1 a (100, V.set j.toInt.toNat (.int x)), σ.2) := xr_iastore dX8_takeFromLine_47
theorem eX8_takeFromLine_48 : wX8_takeFromLine B ad K 48 L r σ ↔ ∃ v, L[1]? = some (.int v) ∧ x_nl L 1 ∧ wX8_takeFromLine B ad K 51 (L.set 1 (.int (v + 1))) r σ := xr_iinc dX8_takeFromLine_48 (by decide)
theorem eX8_takeFromLine_51 : wX8_takeFromLine B ad K 51 L r σ ↔ wX8_takeFromLine B ad K 12 L r σ := xr_goto dX8_takeFromLine_51 (by decide)
theorem eX8_takeFromLine_54 : wX8_takeFromLine B ad K 54 L [] σ ↔ K none σ := xr_return dX8_takeFromLine_54
end
abbrev wX8_less (B : Nat) (ad : Nat → Nat) (K : xK) : Nat → List Value → List Value → xW → Prop := x_WP B (some .long) (cxX8_less B ad) cX8_less K
section
variable {B : Nat} {ad : Nat → Nat} {K : xK} {L r : List Value} {σ : xW}
theorem eX8_less_0 : wX8_less B ad K 0 L r σ ↔ ∃ v, L[0]? = some (.long v) ∧ wX8_less B ad K 1 L (.long v :: r) σ := xr_lload_n dX8_less_0
theorem eX8_less_1 : wX8_less B ad K 1 L r σ ↔ ∃ v, L[2]? = some (.long v) ∧ wX8_less B ad K 2 L (.long v :: r) σ := xr_lload_n dX8_less_1
theorem eX8_less_2 {x y : Int64} : wX8_less B ad K 2 L (.long y :: .long x :: r) σ ↔ wX8_less B ad K 3 L (.int (lg_cmp x y) :: r) σ := xr_lcmp dX8_less_2
theorem eX8_less_3 {x : Int32} : wX8_less B ad K 3 L (.int x :: r) σ ↔ (if x.toInt < 0 then wX8_less B ad K 6 L r σ else wX8_less B ad K 10 L r σ) := (xr_if_ge dX8_less_3 (by decide)).trans x_ite
theorem eX8_less_6 : wX8_less B ad K 6 L r σ ↔ ∃ v, L[0]? = some (.long v) ∧ wX8_less B ad K 7 L (.long v :: r) σ := xr_lload_n dX8_less_6
theorem eX8_less_7 : wX8_less B ad K 7 L r σ ↔ wX8_less B ad K 11 L r σ := xr_goto dX8_less_7 (by decide)
theorem eX8_less_10 : wX8_less B ad K 10 L r σ ↔ ∃ v, L[2]? = some (.long v) ∧ wX8_less B ad K 11 L (.long v :: r) σ := xr_lload_n dX8_less_10
theorem eX8_less_11 {x : Int64} : wX8_less B ad K 11 L [.long x] σ ↔ K (some (.long x)) σ := xr_lreturn dX8_less_11
end
abbrev wX8_putInsert (B : Nat) (ad : Nat → Nat) (K : xK) : Nat → List Value → List Value → xW → Prop := x_WP B none (cxX8_putInsert B ad) cX8_putInsert K
section
variable {B : Nat} {ad : Nat → Nat} {K : xK} {L r : List Value} {σ : xW}
theorem eX8_putInsert_0 : wX8_putInsert B ad K 0 L r σ ↔ ∃ v, L[0]? = some v ∧ x_rfv v ∧ wX8_putInsert B ad K 1 L (v :: r) σ := xr_aload_n dX8_putInsert_0
theorem eX8_putInsert_1 {a : Nat} : wX8_putInsert B ad K 1 L (.ref a :: r) σ ↔ ∃ fs v, σ.1 a = some (8, fs) ∧ fs[17]? = some v ∧ wX8_putInsert B ad K 4 L (v :: r) σ := xr_getfield (t := 8) (j := 17) dX8_putInsert_1 rfl
theorem eX8_putInsert_4 : wX8_putInsert B ad K 4 L r σ ↔ wX8_putInsert B ad K 5 L (.int 0 :: r) σ := xr_iconst dX8_putInsert_4 (by decide)
theorem eX8_putInsert_5 {a : Nat} {x : Int32} : wX8_putInsert B ad K 5 L (.int x :: .ref a :: r) σ ↔ ∃ t V v, σ.1 a = some (t, V) ∧ (t = 100 ∨ t = 106) ∧ x_ix x V = some v ∧ wX8_putInsert B ad K 6 L (v :: r) σ := xr_iaload dX8_putInsert_5
theorem eX8_putInsert_6 {x : Int32} : wX8_putInsert B ad K 6 L (.int x :: r) σ ↔ wX8_putInsert B ad K 7 L (.long x.toInt64 :: r) σ := xr_i2l dX8_putInsert_6
theorem eX8_putInsert_7 {v : Int64} : wX8_putInsert B ad K 7 L (.long v :: r) σ ↔ (3 + 1 < L.length ∧ x_nl L 3 ∧ wX8_putInsert B ad K 8 ((L.set 3 (.long v)).set (3 + 1) (.retAddr 0)) r σ) := xr_lstore_n dX8_putInsert_7
theorem eX8_putInsert_8 : wX8_putInsert B ad K 8 L r σ ↔ ∃ v, L[0]? = some v ∧ x_rfv v ∧ wX8_putInsert B ad K 9 L (v :: r) σ := xr_aload_n dX8_putInsert_8
theorem eX8_putInsert_9 {a : Nat} : wX8_putInsert B ad K 9 L (.ref a :: r) σ ↔ ∃ fs v, σ.1 a = some (8, fs) ∧ fs[24]? = some v ∧ wX8_putInsert B ad K 12 L (v :: r) σ := xr_getfield (t := 8) (j := 24) dX8_putInsert_9 rfl
theorem eX8_putInsert_12 : wX8_putInsert B ad K 12 L r σ ↔ wX8_putInsert B ad K 13 L (.int 1 :: r) σ := xr_iconst dX8_putInsert_12 (by decide)
theorem eX8_putInsert_13 {x : Int32} {b : Nat} : wX8_putInsert B ad K 13 L (.int x :: .ref b :: r) σ ↔ wX8_putInsert B ad K 14 L (.int x :: .ref b :: .int x :: .ref b :: r) σ := xr_dup2_ia dX8_putInsert_13
theorem eX8_putInsert_14 {a : Nat} {x : Int32} : wX8_putInsert B ad K 14 L (.int x :: .ref a :: r) σ ↔ ∃ V v, σ.1 a = some (101, V) ∧ x_ix x V = some v ∧ wX8_putInsert B ad K 15 L (v :: r) σ := xr_laload dX8_putInsert_14
theorem eX8_putInsert_15 : wX8_putInsert B ad K 15 L r σ ↔ ∃ v, L[0]? = some v ∧ x_rfv v ∧ wX8_putInsert B ad K 16 L (v :: r) σ := xr_aload_n dX8_putInsert_15
theorem eX8_putInsert_16 {a : Nat} : wX8_putInsert B ad K 16 L (.ref a :: r) σ ↔ ∃ fs v, σ.1 a = some (8, fs) ∧ fs[28]? = some v ∧ wX8_putInsert B ad K 19 L (v :: r) σ := xr_getfield (t := 8) (j := 28) dX8_putInsert_16 rfl
theorem eX8_putInsert_19 : wX8_putInsert B ad K 19 L r σ ↔ ∃ v, L[1]? = some (.int v) ∧ wX8_putInsert B ad K 20 L (.int v :: r) σ := xr_iload_n dX8_putInsert_19
theorem eX8_putInsert_20 {a : Nat} {x : Int32} : wX8_putInsert B ad K 20 L (.int x :: .ref a :: r) σ ↔ ∃ V v, σ.1 a = some (102, V) ∧ x_ix x V = some v ∧ wX8_putInsert B ad K 21 L (v :: r) σ := xr_baload dX8_putInsert_20
theorem eX8_putInsert_21 {x : Int32} : wX8_putInsert B ad K 21 L (.int x :: r) σ ↔ (if x = 0 then wX8_putInsert B ad K 28 L r σ else wX8_putInsert B ad K 24 L r σ) := (xr_if_eq dX8_putInsert_21 (by decide)).trans x_ite
theorem eX8_putInsert_24 : wX8_putInsert B ad K 24 L r σ ↔ wX8_putInsert B ad K 25 L (.long 0 :: r) σ := xr_lconst dX8_putInsert_24 (by decide)
theorem eX8_putInsert_25 : wX8_putInsert B ad K 25 L r σ ↔ wX8_putInsert B ad K 35 L r σ := xr_goto dX8_putInsert_25 (by decide)
theorem eX8_putInsert_28 : wX8_putInsert B ad K 28 L r σ ↔ ∃ v, L[0]? = some v ∧ x_rfv v ∧ wX8_putInsert B ad K 29 L (v :: r) σ := xr_aload_n dX8_putInsert_28
theorem eX8_putInsert_29 {a : Nat} : wX8_putInsert B ad K 29 L (.ref a :: r) σ ↔ ∃ fs v, σ.1 a = some (8, fs) ∧ fs[10]? = some v ∧ wX8_putInsert B ad K 32 L (v :: r) σ := xr_getfield (t := 8) (j := 10) dX8_putInsert_29 rfl
theorem eX8_putInsert_32 : wX8_putInsert B ad K 32 L r σ ↔ ∃ v, L[1]? = some (.int v) ∧ wX8_putInsert B ad K 33 L (.int v :: r) σ := xr_iload_n dX8_putInsert_32
theorem eX8_putInsert_33 {a : Nat} {x : Int32} : wX8_putInsert B ad K 33 L (.int x :: .ref a :: r) σ ↔ ∃ t V v, σ.1 a = some (t, V) ∧ (t = 100 ∨ t = 106) ∧ x_ix x V = some v ∧ wX8_putInsert B ad K 34 L (v :: r) σ := xr_iaload dX8_putInsert_33
theorem eX8_putInsert_34 {x : Int32} : wX8_putInsert B ad K 34 L (.int x :: r) σ ↔ wX8_putInsert B ad K 35 L (.long x.toInt64 :: r) σ := xr_i2l dX8_putInsert_34
theorem eX8_putInsert_35 {x y : Int64} : wX8_putInsert B ad K 35 L (.long y :: .long x :: r) σ ↔ wX8_putInsert B ad K 36 L (.long (x - y) :: r) σ := xr_lsub dX8_putInsert_35
theorem eX8_putInsert_36 {a : Nat} {j : Int32} {x : Int64} : wX8_putInsert B ad K 36 L (.long x :: .int j :: .ref a :: r) σ ↔ ∃ V, σ.1 a = some (101, V) ∧ (x_ix j V).isSome ∧ B ≤ a ∧ wX8_putInsert B ad K 37 L r (x_up σ.1 a (101, V.set j.toInt.toNat (.long x)), σ.2) := xr_lastore dX8_putInsert_36
theorem eX8_putInsert_37 : wX8_putInsert B ad K 37 L r σ ↔ ∃ v, L[0]? = some v ∧ x_rfv v ∧ wX8_putInsert B ad K 38 L (v :: r) σ := xr_aload_n dX8_putInsert_37
theorem eX8_putInsert_38 {a : Nat} : wX8_putInsert B ad K 38 L (.ref a :: r) σ ↔ ∃ fs v, σ.1 a = some (8, fs) ∧ fs[28]? = some v ∧ wX8_putInsert B ad K 41 L (v :: r) σ := xr_getfield (t := 8) (j := 28) dX8_putInsert_38 rfl
theorem eX8_putInsert_41 : wX8_putInsert B ad K 41 L r σ ↔ ∃ v, L[1]? = some (.int v) ∧ wX8_putInsert B ad K 42 L (.int v :: r) σ := xr_iload_n dX8_putInsert_41
theorem eX8_putInsert_42 : wX8_putInsert B ad K 42 L r σ ↔ wX8_putInsert B ad K 43 L (.int 1 :: r) σ := xr_iconst dX8_putInsert_42 (by decide)
theorem eX8_putInsert_43 {a : Nat} {j x : Int32} : wX8_putInsert B ad K 43 L (.int x :: .int j :: .ref a :: r) σ ↔ ∃ V, σ.1 a = some (102, V) ∧ (x = 0 ∨ x = 1) ∧ (x_ix j V).isSome ∧ B ≤ a ∧ wX8_putInsert B ad K 44 L r (x_up σ.1 a (102, V.set j.toInt.toNat (.int x)), σ.2) := xr_bastore dX8_putInsert_43
theorem eX8_putInsert_44 : wX8_putInsert B ad K 44 L r σ ↔ wX8_putInsert B ad K 45 L (.long 0 :: r) σ := xr_lconst dX8_putInsert_44 (by decide)
theorem eX8_putInsert_45 {v : Int64} : wX8_putInsert B ad K 45 L (.long v :: r) σ ↔ (5 + 1 < L.length ∧ x_nl L 5 ∧ wX8_putInsert B ad K 47 ((L.set 5 (.long v)).set (5 + 1) (.retAddr 0)) r σ) := xr_lstore dX8_putInsert_45
theorem eX8_putInsert_47 : wX8_putInsert B ad K 47 L r σ ↔ wX8_putInsert B ad K 48 L (.int 0 :: r) σ := xr_iconst dX8_putInsert_47 (by decide)
theorem eX8_putInsert_48 {v : Int32} : wX8_putInsert B ad K 48 L (.int v :: r) σ ↔ (7 < L.length ∧ x_nl L 7 ∧ wX8_putInsert B ad K 50 (L.set 7 (.int v)) r σ) := xr_istore dX8_putInsert_48
theorem eX8_putInsert_50 : wX8_putInsert B ad K 50 L r σ ↔ ∃ v, L[0]? = some v ∧ x_rfv v ∧ wX8_putInsert B ad K 51 L (v :: r) σ := xr_aload_n dX8_putInsert_50
theorem eX8_putInsert_51 {a : Nat} : wX8_putInsert B ad K 51 L (.ref a :: r) σ ↔ ∃ fs v, σ.1 a = some (8, fs) ∧ fs[29]? = some v ∧ wX8_putInsert B ad K 54 L (v :: r) σ := xr_getfield (t := 8) (j := 29) dX8_putInsert_51 rfl
theorem eX8_putInsert_54 : wX8_putInsert B ad K 54 L r σ ↔ ∃ v, L[1]? = some (.int v) ∧ wX8_putInsert B ad K 55 L (.int v :: r) σ := xr_iload_n dX8_putInsert_54
theorem eX8_putInsert_55 {a : Nat} {x : Int32} : wX8_putInsert B ad K 55 L (.int x :: .ref a :: r) σ ↔ ∃ V v, σ.1 a = some (102, V) ∧ x_ix x V = some v ∧ wX8_putInsert B ad K 56 L (v :: r) σ := xr_baload dX8_putInsert_55
theorem eX8_putInsert_56 {x : Int32} : wX8_putInsert B ad K 56 L (.int x :: r) σ ↔ (if x = 0 then wX8_putInsert B ad K 59 L r σ else wX8_putInsert B ad K 236 L r σ) := (xr_if_ne dX8_putInsert_56 (by decide)).trans x_ite
theorem eX8_putInsert_59 : wX8_putInsert B ad K 59 L r σ ↔ ∃ v, L[0]? = some v ∧ x_rfv v ∧ wX8_putInsert B ad K 60 L (v :: r) σ := xr_aload_n dX8_putInsert_59
theorem eX8_putInsert_60 {a : Nat} : wX8_putInsert B ad K 60 L (.ref a :: r) σ ↔ ∃ fs v, σ.1 a = some (8, fs) ∧ fs[24]? = some v ∧ wX8_putInsert B ad K 63 L (v :: r) σ := xr_getfield (t := 8) (j := 24) dX8_putInsert_60 rfl
theorem eX8_putInsert_63 : wX8_putInsert B ad K 63 L r σ ↔ wX8_putInsert B ad K 64 L (.int 1 :: r) σ := xr_iconst dX8_putInsert_63 (by decide)
theorem eX8_putInsert_64 {a : Nat} {x : Int32} : wX8_putInsert B ad K 64 L (.int x :: .ref a :: r) σ ↔ ∃ V v, σ.1 a = some (101, V) ∧ x_ix x V = some v ∧ wX8_putInsert B ad K 65 L (v :: r) σ := xr_laload dX8_putInsert_64
theorem eX8_putInsert_65 : wX8_putInsert B ad K 65 L r σ ↔ ∃ v, L[0]? = some v ∧ x_rfv v ∧ wX8_putInsert B ad K 66 L (v :: r) σ := xr_aload_n dX8_putInsert_65
theorem eX8_putInsert_66 {a : Nat} : wX8_putInsert B ad K 66 L (.ref a :: r) σ ↔ ∃ fs v, σ.1 a = some (8, fs) ∧ fs[24]? = some v ∧ wX8_putInsert B ad K 69 L (v :: r) σ := xr_getfield (t := 8) (j := 24) dX8_putInsert_66 rfl
theorem eX8_putInsert_69 : wX8_putInsert B ad K 69 L r σ ↔ wX8_putInsert B ad K 70 L (.int 0 :: r) σ := xr_iconst dX8_putInsert_69 (by decide)
theorem eX8_putInsert_70 {a : Nat} {x : Int32} : wX8_putInsert B ad K 70 L (.int x :: .ref a :: r) σ ↔ ∃ V v, σ.1 a = some (101, V) ∧ x_ix x V = some v ∧ wX8_putInsert B ad K 71 L (v :: r) σ := xr_laload dX8_putInsert_70
theorem eX8_putInsert_71 {x y : Int64} : wX8_putInsert B ad K 71 L (.long y :: .long x :: r) σ ↔ wX8_putInsert B ad K 72 L (.long (x - y) :: r) σ := xr_lsub dX8_putInsert_71
theorem eX8_putInsert_72 : wX8_putInsert B ad K 72 L r σ ↔ ∃ v, L[0]? = some v ∧ x_rfv v ∧ wX8_putInsert B ad K 73 L (v :: r) σ := xr_aload_n dX8_putInsert_72
theorem eX8_putInsert_73 {a : Nat} : wX8_putInsert B ad K 73 L (.ref a :: r) σ ↔ ∃ fs v, σ.1 a = some (8, fs) ∧ fs[24]? = some v ∧ wX8_putInsert B ad K 76 L (v :: r) σ := xr_getfield (t := 8) (j := 24) dX8_putInsert_73 rfl
theorem eX8_putInsert_76 : wX8_putInsert B ad K 76 L r σ ↔ wX8_putInsert B ad K 77 L (.int 2 :: r) σ := xr_iconst dX8_putInsert_76 (by decide)
theorem eX8_putInsert_77 {a : Nat} {x : Int32} : wX8_putInsert B ad K 77 L (.int x :: .ref a :: r) σ ↔ ∃ V v, σ.1 a = some (101, V) ∧ x_ix x V = some v ∧ wX8_putInsert B ad K 78 L (v :: r) σ := xr_laload dX8_putInsert_77
theorem eX8_putInsert_78 {x y : Int64} : wX8_putInsert B ad K 78 L (.long y :: .long x :: r) σ ↔ wX8_putInsert B ad K 79 L (.long (x - y) :: r) σ := xr_lsub dX8_putInsert_78
theorem eX8_putInsert_79 {v : Int64} : wX8_putInsert B ad K 79 L (.long v :: r) σ ↔ (8 + 1 < L.length ∧ x_nl L 8 ∧ wX8_putInsert B ad K 81 ((L.set 8 (.long v)).set (8 + 1) (.retAddr 0)) r σ) := xr_lstore dX8_putInsert_79
theorem eX8_putInsert_81 : wX8_putInsert B ad K 81 L r σ ↔ ∃ v, L[3]? = some (.long v) ∧ wX8_putInsert B ad K 82 L (.long v :: r) σ := xr_lload_n dX8_putInsert_81
theorem eX8_putInsert_82 : wX8_putInsert B ad K 82 L r σ ↔ ∃ v, L[0]? = some v ∧ x_rfv v ∧ wX8_putInsert B ad K 83 L (v :: r) σ := xr_aload_n dX8_putInsert_82
theorem eX8_putInsert_83 {a : Nat} : wX8_putInsert B ad K 83 L (.ref a :: r) σ ↔ ∃ fs v, σ.1 a = some (8, fs) ∧ fs[9]? = some v ∧ wX8_putInsert B ad K 86 L (v :: r) σ := xr_getfield (t := 8) (j := 9) dX8_putInsert_83 rfl
theorem eX8_putInsert_86 : wX8_putInsert B ad K 86 L r σ ↔ ∃ v, L[1]? = some (.int v) ∧ wX8_putInsert B ad K 87 L (.int v :: r) σ := xr_iload_n dX8_putInsert_86
theorem eX8_putInsert_87 {a : Nat} {x : Int32} : wX8_putInsert B ad K 87 L (.int x :: .ref a :: r) σ ↔ ∃ t V v, σ.1 a = some (t, V) ∧ (t = 100 ∨ t = 106) ∧ x_ix x V = some v ∧ wX8_putInsert B ad K 88 L (v :: r) σ := xr_iaload dX8_putInsert_87
theorem eX8_putInsert_88 {x : Int32} : wX8_putInsert B ad K 88 L (.int x :: r) σ ↔ wX8_putInsert B ad K 89 L (.long x.toInt64 :: r) σ := xr_i2l dX8_putInsert_88
theorem eX8_putInsert_89 {x y : Int64} : wX8_putInsert B ad K 89 L (.long y :: .long x :: r) σ ↔ wX8_putInsert B ad K 90 L (.long (x * y) :: r) σ := xr_lmul dX8_putInsert_89
theorem eX8_putInsert_90 : wX8_putInsert B ad K 90 L r σ ↔ wX8_putInsert B ad K 93 L (.long 1000 :: r) σ := xr_ldc2 dX8_putInsert_90 rfl
theorem eX8_putInsert_93 {x y : Int64} : wX8_putInsert B ad K 93 L (.long y :: .long x :: r) σ ↔ (¬ y = 0 ∧ wX8_putInsert B ad K 94 L (.long (x / y) :: r) σ) := xr_ldiv dX8_putInsert_93
theorem eX8_putInsert_94 {v : Int64} : wX8_putInsert B ad K 94 L (.long v :: r) σ ↔ (10 + 1 < L.length ∧ x_nl L 10 ∧ wX8_putInsert B ad K 96 ((L.set 10 (.long v)).set (10 + 1) (.retAddr 0)) r σ) := xr_lstore dX8_putInsert_94
theorem eX8_putInsert_96 : wX8_putInsert B ad K 96 L r σ ↔ ∃ v, L[10]? = some (.long v) ∧ wX8_putInsert B ad K 98 L (.long v :: r) σ := xr_lload dX8_putInsert_96
theorem eX8_putInsert_98 : wX8_putInsert B ad K 98 L r σ ↔ ∃ v, L[8]? = some (.long v) ∧ wX8_putInsert B ad K 100 L (.long v :: r) σ := xr_lload dX8_putInsert_98
theorem eX8_putInsert_100 : wX8_putInsert B ad K 100 L r σ ↔ ∃ v, L[0]? = some v ∧ x_rfv v ∧ wX8_putInsert B ad K 101 L (v :: r) σ := xr_aload_n dX8_putInsert_100
theorem eX8_putInsert_101 {a : Nat} : wX8_putInsert B ad K 101 L (.ref a :: r) σ ↔ ∃ fs v, σ.1 a = some (8, fs) ∧ fs[24]? = some v ∧ wX8_putInsert B ad K 104 L (v :: r) σ := xr_getfield (t := 8) (j := 24) dX8_putInsert_101 rfl
theorem eX8_putInsert_104 : wX8_putInsert B ad K 104 L r σ ↔ wX8_putInsert B ad K 106 L (.int 7 :: r) σ := xr_bipush dX8_putInsert_104 (by decide)
theorem eX8_putInsert_106 {a : Nat} {x : Int32} : wX8_putInsert B ad K 106 L (.int x :: .ref a :: r) σ ↔ ∃ V v, σ.1 a = some (101, V) ∧ x_ix x V = some v ∧ wX8_putInsert B ad K 107 L (v :: r) σ := xr_laload dX8_putInsert_106
theorem eX8_putInsert_107 {x y : Int64} : wX8_putInsert B ad K 107 L (.long y :: .long x :: r) σ ↔ wX8_putInsert B ad K 108 L (.long (x + y) :: r) σ := xr_ladd dX8_putInsert_107
theorem eX8_putInsert_108 {x y : Int64} : wX8_putInsert B ad K 108 L (.long y :: .long x :: r) σ ↔ wX8_putInsert B ad K 109 L (.int (lg_cmp x y) :: r) σ := xr_lcmp dX8_putInsert_108
theorem eX8_putInsert_109 {x : Int32} : wX8_putInsert B ad K 109 L (.int x :: r) σ ↔ (if 0 < x.toInt then wX8_putInsert B ad K 112 L r σ else wX8_putInsert B ad K 119 L r σ) := (xr_if_le dX8_putInsert_109 (by decide)).trans x_ite
theorem eX8_putInsert_112 : wX8_putInsert B ad K 112 L r σ ↔ ∃ v, L[10]? = some (.long v) ∧ wX8_putInsert B ad K 114 L (.long v :: r) σ := xr_lload dX8_putInsert_112
theorem eX8_putInsert_114 : wX8_putInsert B ad K 114 L r σ ↔ wX8_putInsert B ad K 115 L (.long 0 :: r) σ := xr_lconst dX8_putInsert_114 (by decide)
theorem eX8_putInsert_115 {x y : Int64} : wX8_putInsert B ad K 115 L (.long y :: .long x :: r) σ ↔ wX8_putInsert B ad K 116 L (.int (lg_cmp x y) :: r) σ := xr_lcmp dX8_putInsert_115
theorem eX8_putInsert_116 {x : Int32} : wX8_putInsert B ad K 116 L (.int x :: r) σ ↔ (if x = 0 then wX8_putInsert B ad K 119 L r σ else wX8_putInsert B ad K 145 L r σ) := (xr_if_ne dX8_putInsert_116 (by decide)).trans x_ite
theorem eX8_putInsert_119 : wX8_putInsert B ad K 119 L r σ ↔ ∃ v, L[0]? = some v ∧ x_rfv v ∧ wX8_putInsert B ad K 120 L (v :: r) σ := xr_aload_n dX8_putInsert_119
theorem eX8_putInsert_120 {a : Nat} : wX8_putInsert B ad K 120 L (.ref a :: r) σ ↔ ∃ fs v, σ.1 a = some (8, fs) ∧ fs[24]? = some v ∧ wX8_putInsert B ad K 123 L (v :: r) σ := xr_getfield (t := 8) (j := 24) dX8_putInsert_120 rfl
theorem eX8_putInsert_123 : wX8_putInsert B ad K 123 L r σ ↔ wX8_putInsert B ad K 125 L (.int 8 :: r) σ := xr_bipush dX8_putInsert_123 (by decide)
theorem eX8_putInsert_125 : wX8_putInsert B ad K 125 L r σ ↔ ∃ v, L[1]? = some (.int v) ∧ wX8_putInsert B ad K 126 L (.int v :: r) σ := xr_iload_n dX8_putInsert_125
theorem eX8_putInsert_126 {x y : Int32} : wX8_putInsert B ad K 126 L (.int y :: .int x :: r) σ ↔ wX8_putInsert B ad K 127 L (.int (x + y) :: r) σ := xr_iadd dX8_putInsert_126
theorem eX8_putInsert_127 {a : Nat} {x : Int32} : wX8_putInsert B ad K 127 L (.int x :: .ref a :: r) σ ↔ ∃ V v, σ.1 a = some (101, V) ∧ x_ix x V = some v ∧ wX8_putInsert B ad K 128 L (v :: r) σ := xr_laload dX8_putInsert_127
theorem eX8_putInsert_128 : wX8_putInsert B ad K 128 L r σ ↔ ∃ v, L[3]? = some (.long v) ∧ wX8_putInsert B ad K 129 L (.long v :: r) σ := xr_lload_n dX8_putInsert_128
theorem eX8_putInsert_129 {x y : Int64} : wX8_putInsert B ad K 129 L (.long y :: .long x :: r) σ ↔ wX8_putInsert B ad K 130 L (.long (x + y) :: r) σ := xr_ladd dX8_putInsert_129
theorem eX8_putInsert_130 : wX8_putInsert B ad K 130 L r σ ↔ ∃ v, L[0]? = some v ∧ x_rfv v ∧ wX8_putInsert B ad K 131 L (v :: r) σ := xr_aload_n dX8_putInsert_130
theorem eX8_putInsert_131 {a : Nat} : wX8_putInsert B ad K 131 L (.ref a :: r) σ ↔ ∃ fs v, σ.1 a = some (8, fs) ∧ fs[8]? = some v ∧ wX8_putInsert B ad K 134 L (v :: r) σ := xr_getfield (t := 8) (j := 8) dX8_putInsert_131 rfl
theorem eX8_putInsert_134 : wX8_putInsert B ad K 134 L r σ ↔ ∃ v, L[1]? = some (.int v) ∧ wX8_putInsert B ad K 135 L (.int v :: r) σ := xr_iload_n dX8_putInsert_134
theorem eX8_putInsert_135 {a : Nat} {x : Int32} : wX8_putInsert B ad K 135 L (.int x :: .ref a :: r) σ ↔ ∃ t V v, σ.1 a = some (t, V) ∧ (t = 100 ∨ t = 106) ∧ x_ix x V = some v ∧ wX8_putInsert B ad K 136 L (v :: r) σ := xr_iaload dX8_putInsert_135
theorem eX8_putInsert_136 {x : Int32} : wX8_putInsert B ad K 136 L (.int x :: r) σ ↔ wX8_putInsert B ad K 137 L (.long x.toInt64 :: r) σ := xr_i2l dX8_putInsert_136
theorem eX8_putInsert_137 {x y : Int64} : wX8_putInsert B ad K 137 L (.long y :: .long x :: r) σ ↔ wX8_putInsert B ad K 138 L (.int (lg_cmp x y) :: r) σ := xr_lcmp dX8_putInsert_137
theorem eX8_putInsert_138 {x : Int32} : wX8_putInsert B ad K 138 L (.int x :: r) σ ↔ (if 0 < x.toInt then wX8_putInsert B ad K 145 L r σ else wX8_putInsert B ad K 141 L r σ) := (xr_if_gt dX8_putInsert_138 (by decide)).trans x_ite
theorem eX8_putInsert_141 : wX8_putInsert B ad K 141 L r σ ↔ wX8_putInsert B ad K 142 L (.int 1 :: r) σ := xr_iconst dX8_putInsert_141 (by decide)
theorem eX8_putInsert_142 : wX8_putInsert B ad K 142 L r σ ↔ wX8_putInsert B ad K 146 L r σ := xr_goto dX8_putInsert_142 (by decide)
theorem eX8_putInsert_145 : wX8_putInsert B ad K 145 L r σ ↔ wX8_putInsert B ad K 146 L (.int 0 :: r) σ := xr_iconst dX8_putInsert_145 (by decide)
theorem eX8_putInsert_146 {v : Int32} : wX8_putInsert B ad K 146 L (.int v :: r) σ ↔ (7 < L.length ∧ x_nl L 7 ∧ wX8_putInsert B ad K 148 (L.set 7 (.int v)) r σ) := xr_istore dX8_putInsert_146
theorem eX8_putInsert_148 : wX8_putInsert B ad K 148 L r σ ↔ ∃ v, L[3]? = some (.long v) ∧ wX8_putInsert B ad K 149 L (.long v :: r) σ := xr_lload_n dX8_putInsert_148
theorem eX8_putInsert_149 : wX8_putInsert B ad K 149 L r σ ↔ wX8_putInsert B ad K 150 L (.long 1 :: r) σ := xr_lconst dX8_putInsert_149 (by decide)
theorem eX8_putInsert_150 {x y : Int64} : wX8_putInsert B ad K 150 L (.long y :: .long x :: r) σ ↔ wX8_putInsert B ad K 151 L (.long (x - y) :: r) σ := xr_lsub dX8_putInsert_150
theorem eX8_putInsert_151 : wX8_putInsert B ad K 151 L r σ ↔ ∃ v, L[0]? = some v ∧ x_rfv v ∧ wX8_putInsert B ad K 152 L (v :: r) σ := xr_aload_n dX8_putInsert_151
theorem eX8_putInsert_152 {a : Nat} : wX8_putInsert B ad K 152 L (.ref a :: r) σ ↔ ∃ fs v, σ.1 a = some (8, fs) ∧ fs[8]? = some v ∧ wX8_putInsert B ad K 155 L (v :: r) σ := xr_getfield (t := 8) (j := 8) dX8_putInsert_152 rfl
theorem eX8_putInsert_155 : wX8_putInsert B ad K 155 L r σ ↔ ∃ v, L[1]? = some (.int v) ∧ wX8_putInsert B ad K 156 L (.int v :: r) σ := xr_iload_n dX8_putInsert_155
theorem eX8_putInsert_156 {a : Nat} {x : Int32} : wX8_putInsert B ad K 156 L (.int x :: .ref a :: r) σ ↔ ∃ t V v, σ.1 a = some (t, V) ∧ (t = 100 ∨ t = 106) ∧ x_ix x V = some v ∧ wX8_putInsert B ad K 157 L (v :: r) σ := xr_iaload dX8_putInsert_156
theorem eX8_putInsert_157 {x : Int32} : wX8_putInsert B ad K 157 L (.int x :: r) σ ↔ wX8_putInsert B ad K 158 L (.long x.toInt64 :: r) σ := xr_i2l dX8_putInsert_157
theorem eX8_putInsert_158 : wX8_putInsert B ad K 158 L r σ ↔ ∃ v, L[0]? = some v ∧ x_rfv v ∧ wX8_putInsert B ad K 159 L (v :: r) σ := xr_aload_n dX8_putInsert_158
theorem eX8_putInsert_159 {a : Nat} : wX8_putInsert B ad K 159 L (.ref a :: r) σ ↔ ∃ fs v, σ.1 a = some (8, fs) ∧ fs[24]? = some v ∧ wX8_putInsert B ad K 162 L (v :: r) σ := xr_getfield (t := 8) (j := 24) dX8_putInsert_159 rfl
theorem eX8_putInsert_162 : wX8_putInsert B ad K 162 L r σ ↔ wX8_putInsert B ad K 164 L (.int 8 :: r) σ := xr_bipush dX8_putInsert_162 (by decide)
theorem eX8_putInsert_164 : wX8_putInsert B ad K 164 L r σ ↔ ∃ v, L[1]? = some (.int v) ∧ wX8_putInsert B ad K 165 L (.int v :: r) σ := xr_iload_n dX8_putInsert_164
theorem eX8_putInsert_165 {x y : Int32} : wX8_putInsert B ad K 165 L (.int y :: .int x :: r) σ ↔ wX8_putInsert B ad K 166 L (.int (x + y) :: r) σ := xr_iadd dX8_putInsert_165
theorem eX8_putInsert_166 {a : Nat} {x : Int32} : wX8_putInsert B ad K 166 L (.int x :: .ref a :: r) σ ↔ ∃ V v, σ.1 a = some (101, V) ∧ x_ix x V = some v ∧ wX8_putInsert B ad K 167 L (v :: r) σ := xr_laload dX8_putInsert_166
theorem eX8_putInsert_167 {x y : Int64} : wX8_putInsert B ad K 167 L (.long y :: .long x :: r) σ ↔ wX8_putInsert B ad K 168 L (.long (x - y) :: r) σ := xr_lsub dX8_putInsert_167
theorem eX8_putInsert_168 {v0 v1 : Value} : wX8_putInsert B ad K 168 L (v1 :: v0 :: r) σ ↔ ((r.map fun v => v.category).sum ≤ 8 ∧ x_cl (eX8_less B ad) [v0, v1] σ (fun v g => wX8_putInsert B ad K 171 L (v.toList ++ r) g)) := xr_callS [v0, v1] r dX8_putInsert_168 rfl
theorem eX8_putInsert_171 {v : Int64} : wX8_putInsert B ad K 171 L (.long v :: r) σ ↔ (12 + 1 < L.length ∧ x_nl L 12 ∧ wX8_putInsert B ad K 173 ((L.set 12 (.long v)).set (12 + 1) (.retAddr 0)) r σ) := xr_lstore dX8_putInsert_171
theorem eX8_putInsert_173 : wX8_putInsert B ad K 173 L r σ ↔ ∃ v, L[0]? = some v ∧ x_rfv v ∧ wX8_putInsert B ad K 174 L (v :: r) σ := xr_aload_n dX8_putInsert_173
theorem eX8_putInsert_174 {a : Nat} : wX8_putInsert B ad K 174 L (.ref a :: r) σ ↔ ∃ fs v, σ.1 a = some (8, fs) ∧ fs[9]? = some v ∧ wX8_putInsert B ad K 177 L (v :: r) σ := xr_getfield (t := 8) (j := 9) dX8_putInsert_174 rfl
theorem eX8_putInsert_177 : wX8_putInsert B ad K 177 L r σ ↔ ∃ v, L[1]? = some (.int v) ∧ wX8_putInsert B ad K 178 L (.int v :: r) σ := xr_iload_n dX8_putInsert_177
theorem eX8_putInsert_178 {a : Nat} {x : Int32} : wX8_putInsert B ad K 178 L (.int x :: .ref a :: r) σ ↔ ∃ t V v, σ.1 a = some (t, V) ∧ (t = 100 ∨ t = 106) ∧ x_ix x V = some v ∧ wX8_putInsert B ad K 179 L (v :: r) σ := xr_iaload dX8_putInsert_178
theorem eX8_putInsert_179 {x : Int32} : wX8_putInsert B ad K 179 L (.int x :: r) σ ↔ (if x = 0 then wX8_putInsert B ad K 182 L r σ else wX8_putInsert B ad K 187 L r σ) := (xr_if_ne dX8_putInsert_179 (by decide)).trans x_ite
theorem eX8_putInsert_182 : wX8_putInsert B ad K 182 L r σ ↔ ∃ v, L[12]? = some (.long v) ∧ wX8_putInsert B ad K 184 L (.long v :: r) σ := xr_lload dX8_putInsert_182
theorem eX8_putInsert_184 : wX8_putInsert B ad K 184 L r σ ↔ wX8_putInsert B ad K 206 L r σ := xr_goto dX8_putInsert_184 (by decide)
theorem eX8_putInsert_187 : wX8_putInsert B ad K 187 L r σ ↔ ∃ v, L[12]? = some (.long v) ∧ wX8_putInsert B ad K 189 L (.long v :: r) σ := xr_lload dX8_putInsert_187
theorem eX8_putInsert_189 : wX8_putInsert B ad K 189 L r σ ↔ ∃ v, L[8]? = some (.long v) ∧ wX8_putInsert B ad K 191 L (.long v :: r) σ := xr_lload dX8_putInsert_189
theorem eX8_putInsert_191 : wX8_putInsert B ad K 191 L r σ ↔ wX8_putInsert B ad K 194 L (.long 1000 :: r) σ := xr_ldc2 dX8_putInsert_191 rfl
theorem eX8_putInsert_194 {x y : Int64} : wX8_putInsert B ad K 194 L (.long y :: .long x :: r) σ ↔ wX8_putInsert B ad K 195 L (.long (x * y) :: r) σ := xr_lmul dX8_putInsert_194
theorem eX8_putInsert_195 : wX8_putInsert B ad K 195 L r σ ↔ ∃ v, L[0]? = some v ∧ x_rfv v ∧ wX8_putInsert B ad K 196 L (v :: r) σ := xr_aload_n dX8_putInsert_195
theorem eX8_putInsert_196 {a : Nat} : wX8_putInsert B ad K 196 L (.ref a :: r) σ ↔ ∃ fs v, σ.1 a = some (8, fs) ∧ fs[9]? = some v ∧ wX8_putInsert B ad K 199 L (v :: r) σ := xr_getfield (t := 8) (j := 9) dX8_putInsert_196 rfl
theorem eX8_putInsert_199 : wX8_putInsert B ad K 199 L r σ ↔ ∃ v, L[1]? = some (.int v) ∧ wX8_putInsert B ad K 200 L (.int v :: r) σ := xr_iload_n dX8_putInsert_199
theorem eX8_putInsert_200 {a : Nat} {x : Int32} : wX8_putInsert B ad K 200 L (.int x :: .ref a :: r) σ ↔ ∃ t V v, σ.1 a = some (t, V) ∧ (t = 100 ∨ t = 106) ∧ x_ix x V = some v ∧ wX8_putInsert B ad K 201 L (v :: r) σ := xr_iaload dX8_putInsert_200
theorem eX8_putInsert_201 {x : Int32} : wX8_putInsert B ad K 201 L (.int x :: r) σ ↔ wX8_putInsert B ad K 202 L (.long x.toInt64 :: r) σ := xr_i2l dX8_putInsert_201
theorem eX8_putInsert_202 {x y : Int64} : wX8_putInsert B ad K 202 L (.long y :: .long x :: r) σ ↔ (¬ y = 0 ∧ wX8_putInsert B ad K 203 L (.long (x / y) :: r) σ) := xr_ldiv dX8_putInsert_202
theorem eX8_putInsert_203 {v0 v1 : Value} : wX8_putInsert B ad K 203 L (v1 :: v0 :: r) σ ↔ ((r.map fun v => v.category).sum ≤ 8 ∧ x_cl (eX8_less B ad) [v0, v1] σ (fun v g => wX8_putInsert B ad K 206 L (v.toList ++ r) g)) := xr_callS [v0, v1] r dX8_putInsert_203 rfl
theorem eX8_putInsert_206 {v : Int64} : wX8_putInsert B ad K 206 L (.long v :: r) σ ↔ (12 + 1 < L.length ∧ x_nl L 12 ∧ wX8_putInsert B ad K 208 ((L.set 12 (.long v)).set (12 + 1) (.retAddr 0)) r σ) := xr_lstore dX8_putInsert_206
theorem eX8_putInsert_208 : wX8_putInsert B ad K 208 L r σ ↔ ∃ v, L[7]? = some (.int v) ∧ wX8_putInsert B ad K 210 L (.int v :: r) σ := xr_iload dX8_putInsert_208
theorem eX8_putInsert_210 {x : Int32} : wX8_putInsert B ad K 210 L (.int x :: r) σ ↔ (if x = 0 then wX8_putInsert B ad K 217 L r σ else wX8_putInsert B ad K 213 L r σ) := (xr_if_eq dX8_putInsert_210 (by decide)).trans x_ite
theorem eX8_putInsert_213 : wX8_putInsert B ad K 213 L r σ ↔ ∃ v, L[3]? = some (.long v) ∧ wX8_putInsert B ad K 214 L (.long v :: r) σ := xr_lload_n dX8_putInsert_213
theorem eX8_putInsert_214 : wX8_putInsert B ad K 214 L r σ ↔ wX8_putInsert B ad K 234 L r σ := xr_goto dX8_putInsert_214 (by decide)
theorem eX8_putInsert_217 : wX8_putInsert B ad K 217 L r σ ↔ ∃ v, L[2]? = some (.int v) ∧ wX8_putInsert B ad K 218 L (.int v :: r) σ := xr_iload_n dX8_putInsert_217
theorem eX8_putInsert_218 {x : Int32} : wX8_putInsert B ad K 218 L (.int x :: r) σ ↔ (if x = 0 then wX8_putInsert B ad K 233 L r σ else wX8_putInsert B ad K 221 L r σ) := (xr_if_eq dX8_putInsert_218 (by decide)).trans x_ite
theorem eX8_putInsert_221 : wX8_putInsert B ad K 221 L r σ ↔ ∃ v, L[12]? = some (.long v) ∧ wX8_putInsert B ad K 223 L (.long v :: r) σ := xr_lload dX8_putInsert_221
theorem eX8_putInsert_223 : wX8_putInsert B ad K 223 L r σ ↔ wX8_putInsert B ad K 224 L (.long 0 :: r) σ := xr_lconst dX8_putInsert_223 (by decide)
theorem eX8_putInsert_224 {x y : Int64} : wX8_putInsert B ad K 224 L (.long y :: .long x :: r) σ ↔ wX8_putInsert B ad K 225 L (.int (lg_cmp x y) :: r) σ := xr_lcmp dX8_putInsert_224
theorem eX8_putInsert_225 {x : Int32} : wX8_putInsert B ad K 225 L (.int x :: r) σ ↔ (if 0 < x.toInt then wX8_putInsert B ad K 228 L r σ else wX8_putInsert B ad K 233 L r σ) := (xr_if_le dX8_putInsert_225 (by decide)).trans x_ite
theorem eX8_putInsert_228 : wX8_putInsert B ad K 228 L r σ ↔ ∃ v, L[12]? = some (.long v) ∧ wX8_putInsert B ad K 230 L (.long v :: r) σ := xr_lload dX8_putInsert_228
theorem eX8_putInsert_230 : wX8_putInsert B ad K 230 L r σ ↔ wX8_putInsert B ad K 234 L r σ := xr_goto dX8_putInsert_230 (by decide)
theorem eX8_putInsert_233 : wX8_putInsert B ad K 233 L r σ ↔ wX8_putInsert B ad K 234 L (.long 0 :: r) σ := xr_lconst dX8_putInsert_233 (by decide)
theorem eX8_putInsert_234 {v : Int64} : wX8_putInsert B ad K 234 L (.long v :: r) σ ↔ (5 + 1 < L.length ∧ x_nl L 5 ∧ wX8_putInsert B ad K 236 ((L.set 5 (.long v)).set (5 + 1) (.retAddr 0)) r σ) := xr_lstore dX8_putInsert_234
theorem eX8_putInsert_236 : wX8_putInsert B ad K 236 L r σ ↔ ∃ v, L[0]? = some v ∧ x_rfv v ∧ wX8_putInsert B ad K 237 L (v :: r) σ := xr_aload_n dX8_putInsert_236
theorem eX8_putInsert_237 {a : Nat} : wX8_putInsert B ad K 237 L (.ref a :: r) σ ↔ ∃ fs v, σ.1 a = some (8, fs) ∧ fs[21]? = some v ∧ wX8_putInsert B ad K 240 L (v :: r) σ := xr_getfield (t := 8) (j := 21) dX8_putInsert_237 rfl
theorem eX8_putInsert_240 : wX8_putInsert B ad K 240 L r σ ↔ ∃ v, L[0]? = some v ∧ x_rfv v ∧ wX8_putInsert B ad K 241 L (v :: r) σ := xr_aload_n dX8_putInsert_240
theorem eX8_putInsert_241 {a : Nat} : wX8_putInsert B ad K 241 L (.ref a :: r) σ ↔ ∃ fs v, σ.1 a = some (8, fs) ∧ fs[18]? = some v ∧ wX8_putInsert B ad K 244 L (v :: r) σ := xr_getfield (t := 8) (j := 18) dX8_putInsert_241 rfl
theorem eX8_putInsert_244 : wX8_putInsert B ad K 244 L r σ ↔ ∃ v, L[5]? = some (.long v) ∧ wX8_putInsert B ad K 246 L (.long v :: r) σ := xr_lload dX8_putInsert_244
theorem eX8_putInsert_246 {x : Int64} : wX8_putInsert B ad K 246 L (.long x :: r) σ ↔ wX8_putInsert B ad K 247 L (.int x.toInt32 :: r) σ := xr_l2i dX8_putInsert_246
theorem eX8_putInsert_247 {a : Nat} {j : Int32} {x : Int32} : wX8_putInsert B ad K 247 L (.int x :: .int j :: .ref a :: r) σ ↔ ∃ V, σ.1 a = some (100, V) ∧ (x_ix j V).isSome ∧ B ≤ a ∧ wX8_putInsert B ad K 248 L r (x_up σ.1 a (100, V.set j.toInt.toNat (.int x)), σ.2) := xr_iastore dX8_putInsert_247
theorem eX8_putInsert_248 : wX8_putInsert B ad K 248 L r σ ↔ ∃ v, L[0]? = some v ∧ x_rfv v ∧ wX8_putInsert B ad K 249 L (v :: r) σ := xr_aload_n dX8_putInsert_248
theorem eX8_putInsert_249 {a : Nat} : wX8_putInsert B ad K 249 L (.ref a :: r) σ ↔ ∃ fs v, σ.1 a = some (8, fs) ∧ fs[24]? = some v ∧ wX8_putInsert B ad K 252 L (v :: r) σ := xr_getfield (t := 8) (j := 24) dX8_putInsert_249 rfl
theorem eX8_putInsert_252 : wX8_putInsert B ad K 252 L r σ ↔ wX8_putInsert B ad K 254 L (.int 8 :: r) σ := xr_bipush dX8_putInsert_252 (by decide)
theorem eX8_putInsert_254 : wX8_putInsert B ad K 254 L r σ ↔ ∃ v, L[1]? = some (.int v) ∧ wX8_putInsert B ad K 255 L (.int v :: r) σ := xr_iload_n dX8_putInsert_254
theorem eX8_putInsert_255 {x y : Int32} : wX8_putInsert B ad K 255 L (.int y :: .int x :: r) σ ↔ wX8_putInsert B ad K 256 L (.int (x + y) :: r) σ := xr_iadd dX8_putInsert_255
theorem eX8_putInsert_256 {x : Int32} {b : Nat} : wX8_putInsert B ad K 256 L (.int x :: .ref b :: r) σ ↔ wX8_putInsert B ad K 257 L (.int x :: .ref b :: .int x :: .ref b :: r) σ := xr_dup2_ia dX8_putInsert_256
theorem eX8_putInsert_257 {a : Nat} {x : Int32} : wX8_putInsert B ad K 257 L (.int x :: .ref a :: r) σ ↔ ∃ V v, σ.1 a = some (101, V) ∧ x_ix x V = some v ∧ wX8_putInsert B ad K 258 L (v :: r) σ := xr_laload dX8_putInsert_257
theorem eX8_putInsert_258 : wX8_putInsert B ad K 258 L r σ ↔ ∃ v, L[5]? = some (.long v) ∧ wX8_putInsert B ad K 260 L (.long v :: r) σ := xr_lload dX8_putInsert_258
theorem eX8_putInsert_260 {x y : Int64} : wX8_putInsert B ad K 260 L (.long y :: .long x :: r) σ ↔ wX8_putInsert B ad K 261 L (.long (x + y) :: r) σ := xr_ladd dX8_putInsert_260
theorem eX8_putInsert_261 {a : Nat} {j : Int32} {x : Int64} : wX8_putInsert B ad K 261 L (.long x :: .int j :: .ref a :: r) σ ↔ ∃ V, σ.1 a = some (101, V) ∧ (x_ix j V).isSome ∧ B ≤ a ∧ wX8_putInsert B ad K 262 L r (x_up σ.1 a (101, V.set j.toInt.toNat (.long x)), σ.2) := xr_lastore dX8_putInsert_261
theorem eX8_putInsert_262 : wX8_putInsert B ad K 262 L r σ ↔ ∃ v, L[0]? = some v ∧ x_rfv v ∧ wX8_putInsert B ad K 263 L (v :: r) σ := xr_aload_n dX8_putInsert_262
theorem eX8_putInsert_263 {a : Nat} : wX8_putInsert B ad K 263 L (.ref a :: r) σ ↔ ∃ fs v, σ.1 a = some (8, fs) ∧ fs[24]? = some v ∧ wX8_putInsert B ad K 266 L (v :: r) σ := xr_getfield (t := 8) (j := 24) dX8_putInsert_263 rfl
theorem eX8_putInsert_266 : wX8_putInsert B ad K 266 L r σ ↔ wX8_putInsert B ad K 267 L (.int 1 :: r) σ := xr_iconst dX8_putInsert_266 (by decide)
theorem eX8_putInsert_267 {x : Int32} {b : Nat} : wX8_putInsert B ad K 267 L (.int x :: .ref b :: r) σ ↔ wX8_putInsert B ad K 268 L (.int x :: .ref b :: .int x :: .ref b :: r) σ := xr_dup2_ia dX8_putInsert_267
theorem eX8_putInsert_268 {a : Nat} {x : Int32} : wX8_putInsert B ad K 268 L (.int x :: .ref a :: r) σ ↔ ∃ V v, σ.1 a = some (101, V) ∧ x_ix x V = some v ∧ wX8_putInsert B ad K 269 L (v :: r) σ := xr_laload dX8_putInsert_268
theorem eX8_putInsert_269 : wX8_putInsert B ad K 269 L r σ ↔ ∃ v, L[5]? = some (.long v) ∧ wX8_putInsert B ad K 271 L (.long v :: r) σ := xr_lload dX8_putInsert_269
theorem eX8_putInsert_271 : wX8_putInsert B ad K 271 L r σ ↔ ∃ v, L[0]? = some v ∧ x_rfv v ∧ wX8_putInsert B ad K 272 L (v :: r) σ := xr_aload_n dX8_putInsert_271
theorem eX8_putInsert_272 {a : Nat} : wX8_putInsert B ad K 272 L (.ref a :: r) σ ↔ ∃ fs v, σ.1 a = some (8, fs) ∧ fs[9]? = some v ∧ wX8_putInsert B ad K 275 L (v :: r) σ := xr_getfield (t := 8) (j := 9) dX8_putInsert_272 rfl
theorem eX8_putInsert_275 : wX8_putInsert B ad K 275 L r σ ↔ ∃ v, L[1]? = some (.int v) ∧ wX8_putInsert B ad K 276 L (.int v :: r) σ := xr_iload_n dX8_putInsert_275
theorem eX8_putInsert_276 {a : Nat} {x : Int32} : wX8_putInsert B ad K 276 L (.int x :: .ref a :: r) σ ↔ ∃ t V v, σ.1 a = some (t, V) ∧ (t = 100 ∨ t = 106) ∧ x_ix x V = some v ∧ wX8_putInsert B ad K 277 L (v :: r) σ := xr_iaload dX8_putInsert_276
theorem eX8_putInsert_277 {x : Int32} : wX8_putInsert B ad K 277 L (.int x :: r) σ ↔ wX8_putInsert B ad K 278 L (.long x.toInt64 :: r) σ := xr_i2l dX8_putInsert_277
theorem eX8_putInsert_278 {x y : Int64} : wX8_putInsert B ad K 278 L (.long y :: .long x :: r) σ ↔ wX8_putInsert B ad K 279 L (.long (x * y) :: r) σ := xr_lmul dX8_putInsert_278
theorem eX8_putInsert_279 : wX8_putInsert B ad K 279 L r σ ↔ wX8_putInsert B ad K 282 L (.long 1000 :: r) σ := xr_ldc2 dX8_putInsert_279 rfl
theorem eX8_putInsert_282 {x y : Int64} : wX8_putInsert B ad K 282 L (.long y :: .long x :: r) σ ↔ (¬ y = 0 ∧ wX8_putInsert B ad K 283 L (.long (x / y) :: r) σ) := xr_ldiv dX8_putInsert_282
theorem eX8_putInsert_283 {x y : Int64} : wX8_putInsert B ad K 283 L (.long y :: .long x :: r) σ ↔ wX8_putInsert B ad K 284 L (.long (x - y) :: r) σ := xr_lsub dX8_putInsert_283
theorem eX8_putInsert_284 {a : Nat} {j : Int32} {x : Int64} : wX8_putInsert B ad K 284 L (.long x :: .int j :: .ref a :: r) σ ↔ ∃ V, σ.1 a = some (101, V) ∧ (x_ix j V).isSome ∧ B ≤ a ∧ wX8_putInsert B ad K 285 L r (x_up σ.1 a (101, V.set j.toInt.toNat (.long x)), σ.2) := xr_lastore dX8_putInsert_284
theorem eX8_putInsert_285 : wX8_putInsert B ad K 285 L r σ ↔ ∃ v, L[7]? = some (.int v) ∧ wX8_putInsert B ad K 287 L (.int v :: r) σ := xr_iload dX8_putInsert_285
theorem eX8_putInsert_287 {x : Int32} : wX8_putInsert B ad K 287 L (.int x :: r) σ ↔ (if x = 0 then wX8_putInsert B ad K 290 L r σ else wX8_putInsert B ad K 323 L r σ) := (xr_if_ne dX8_putInsert_287 (by decide)).trans x_ite
theorem eX8_putInsert_290 : wX8_putInsert B ad K 290 L r σ ↔ ∃ v, L[0]? = some v ∧ x_rfv v ∧ wX8_putInsert B ad K 291 L (v :: r) σ := xr_aload_n dX8_putInsert_290
theorem eX8_putInsert_291 {a : Nat} : wX8_putInsert B ad K 291 L (.ref a :: r) σ ↔ ∃ fs v, σ.1 a = some (8, fs) ∧ fs[22]? = some v ∧ wX8_putInsert B ad K 294 L (v :: r) σ := xr_getfield (t := 8) (j := 22) dX8_putInsert_291 rfl
theorem eX8_putInsert_294 : wX8_putInsert B ad K 294 L r σ ↔ ∃ v, L[0]? = some v ∧ x_rfv v ∧ wX8_putInsert B ad K 295 L (v :: r) σ := xr_aload_n dX8_putInsert_294
theorem eX8_putInsert_295 {a : Nat} : wX8_putInsert B ad K 295 L (.ref a :: r) σ ↔ ∃ fs v, σ.1 a = some (8, fs) ∧ fs[18]? = some v ∧ wX8_putInsert B ad K 298 L (v :: r) σ := xr_getfield (t := 8) (j := 18) dX8_putInsert_295 rfl
theorem eX8_putInsert_298 : wX8_putInsert B ad K 298 L r σ ↔ wX8_putInsert B ad K 299 L (.int 1 :: r) σ := xr_iconst dX8_putInsert_298 (by decide)
theorem eX8_putInsert_299 {a : Nat} {j x : Int32} : wX8_putInsert B ad K 299 L (.int x :: .int j :: .ref a :: r) σ ↔ ∃ V, σ.1 a = some (102, V) ∧ (x = 0 ∨ x = 1) ∧ (x_ix j V).isSome ∧ B ≤ a ∧ wX8_putInsert B ad K 300 L r (x_up σ.1 a (102, V.set j.toInt.toNat (.int x)), σ.2) := xr_bastore dX8_putInsert_299
theorem eX8_putInsert_300 : wX8_putInsert B ad K 300 L r σ ↔ ∃ v, L[0]? = some v ∧ x_rfv v ∧ wX8_putInsert B ad K 301 L (v :: r) σ := xr_aload_n dX8_putInsert_300
theorem eX8_putInsert_301 {a : Nat} : wX8_putInsert B ad K 301 L (.ref a :: r) σ ↔ ∃ fs v, σ.1 a = some (8, fs) ∧ fs[29]? = some v ∧ wX8_putInsert B ad K 304 L (v :: r) σ := xr_getfield (t := 8) (j := 29) dX8_putInsert_301 rfl
theorem eX8_putInsert_304 : wX8_putInsert B ad K 304 L r σ ↔ ∃ v, L[1]? = some (.int v) ∧ wX8_putInsert B ad K 305 L (.int v :: r) σ := xr_iload_n dX8_putInsert_304
theorem eX8_putInsert_305 : wX8_putInsert B ad K 305 L r σ ↔ wX8_putInsert B ad K 306 L (.int 1 :: r) σ := xr_iconst dX8_putInsert_305 (by decide)
theorem eX8_putInsert_306 {a : Nat} {j x : Int32} : wX8_putInsert B ad K 306 L (.int x :: .int j :: .ref a :: r) σ ↔ ∃ V, σ.1 a = some (102, V) ∧ (x = 0 ∨ x = 1) ∧ (x_ix j V).isSome ∧ B ≤ a ∧ wX8_putInsert B ad K 307 L r (x_up σ.1 a (102, V.set j.toInt.toNat (.int x)), σ.2) := xr_bastore dX8_putInsert_306
theorem eX8_putInsert_307 : wX8_putInsert B ad K 307 L r σ ↔ ∃ v, L[0]? = some v ∧ x_rfv v ∧ wX8_putInsert B ad K 308 L (v :: r) σ := xr_aload_n dX8_putInsert_307
theorem eX8_putInsert_308 {v : Value} : wX8_putInsert B ad K 308 L (v :: r) σ ↔ (v.category = 1 ∧ wX8_putInsert B ad K 309 L (v :: v :: r) σ) := xr_dup dX8_putInsert_308
theorem eX8_putInsert_309 {a : Nat} : wX8_putInsert B ad K 309 L (.ref a :: r) σ ↔ ∃ fs v, σ.1 a = some (8, fs) ∧ fs[27]? = some v ∧ wX8_putInsert B ad K 312 L (v :: r) σ := xr_getfield (t := 8) (j := 27) dX8_putInsert_309 rfl
theorem eX8_putInsert_312 : wX8_putInsert B ad K 312 L r σ ↔ ∃ v, L[0]? = some v ∧ x_rfv v ∧ wX8_putInsert B ad K 313 L (v :: r) σ := xr_aload_n dX8_putInsert_312
theorem eX8_putInsert_313 {a : Nat} : wX8_putInsert B ad K 313 L (.ref a :: r) σ ↔ ∃ fs v, σ.1 a = some (8, fs) ∧ fs[11]? = some v ∧ wX8_putInsert B ad K 316 L (v :: r) σ := xr_getfield (t := 8) (j := 11) dX8_putInsert_313 rfl
theorem eX8_putInsert_316 : wX8_putInsert B ad K 316 L r σ ↔ ∃ v, L[1]? = some (.int v) ∧ wX8_putInsert B ad K 317 L (.int v :: r) σ := xr_iload_n dX8_putInsert_316
theorem eX8_putInsert_317 {a : Nat} {x : Int32} : wX8_putInsert B ad K 317 L (.int x :: .ref a :: r) σ ↔ ∃ t V v, σ.1 a = some (t, V) ∧ (t = 100 ∨ t = 106) ∧ x_ix x V = some v ∧ wX8_putInsert B ad K 318 L (v :: r) σ := xr_iaload dX8_putInsert_317
theorem eX8_putInsert_318 {x : Int32} : wX8_putInsert B ad K 318 L (.int x :: r) σ ↔ wX8_putInsert B ad K 319 L (.long x.toInt64 :: r) σ := xr_i2l dX8_putInsert_318
theorem eX8_putInsert_319 {x y : Int64} : wX8_putInsert B ad K 319 L (.long y :: .long x :: r) σ ↔ wX8_putInsert B ad K 320 L (.long (x + y) :: r) σ := xr_ladd dX8_putInsert_319
theorem eX8_putInsert_320 {x : Int64} {a : Nat} : wX8_putInsert B ad K 320 L (.long x :: .ref a :: r) σ ↔ ∃ fs, σ.1 a = some (8, fs) ∧ 27 < fs.length ∧ B ≤ a ∧ wX8_putInsert B ad K 323 L r (x_up σ.1 a (8, fs.set 27 (.long x)), σ.2) := xr_put_l (t := 8) (j := 27) dX8_putInsert_320 rfl (by decide)
theorem eX8_putInsert_323 : wX8_putInsert B ad K 323 L [] σ ↔ K none σ := xr_return dX8_putInsert_323
end
abbrev wX8_put (B : Nat) (ad : Nat → Nat) (K : xK) : Nat → List Value → List Value → xW → Prop := x_WP B none (cxX8_put B ad) cX8_put K
section
variable {B : Nat} {ad : Nat → Nat} {K : xK} {L r : List Value} {σ : xW}
theorem eX8_put_0 : wX8_put B ad K 0 L r σ ↔ ∃ v, L[0]? = some v ∧ x_rfv v ∧ wX8_put B ad K 1 L (v :: r) σ := xr_aload_n dX8_put_0
theorem eX8_put_1 {a : Nat} : wX8_put B ad K 1 L (.ref a :: r) σ ↔ ∃ fs v, σ.1 a = some (8, fs) ∧ fs[16]? = some v ∧ wX8_put B ad K 4 L (v :: r) σ := xr_getfield (t := 8) (j := 16) dX8_put_1 rfl
theorem eX8_put_4 : wX8_put B ad K 4 L r σ ↔ wX8_put B ad K 5 L (.int 0 :: r) σ := xr_iconst dX8_put_4 (by decide)
theorem eX8_put_5 {a : Nat} {x : Int32} : wX8_put B ad K 5 L (.int x :: .ref a :: r) σ ↔ ∃ t V v, σ.1 a = some (t, V) ∧ (t = 100 ∨ t = 106) ∧ x_ix x V = some v ∧ wX8_put B ad K 6 L (v :: r) σ := xr_iaload dX8_put_5
theorem eX8_put_6 {v : Int32} : wX8_put B ad K 6 L (.int v :: r) σ ↔ (1 < L.length ∧ x_nl L 1 ∧ wX8_put B ad K 7 (L.set 1 (.int v)) r σ) := xr_istore_n dX8_put_6
theorem eX8_put_7 : wX8_put B ad K 7 L r σ ↔ ∃ v, L[0]? = some v ∧ x_rfv v ∧ wX8_put B ad K 8 L (v :: r) σ := xr_aload_n dX8_put_7
theorem eX8_put_8 {a : Nat} : wX8_put B ad K 8 L (.ref a :: r) σ ↔ ∃ fs v, σ.1 a = some (8, fs) ∧ fs[19]? = some v ∧ wX8_put B ad K 11 L (v :: r) σ := xr_getfield (t := 8) (j := 19) dX8_put_8 rfl
theorem eX8_put_11 : wX8_put B ad K 11 L r σ ↔ ∃ v, L[0]? = some v ∧ x_rfv v ∧ wX8_put B ad K 12 L (v :: r) σ := xr_aload_n dX8_put_11
theorem eX8_put_12 {a : Nat} : wX8_put B ad K 12 L (.ref a :: r) σ ↔ ∃ fs v, σ.1 a = some (8, fs) ∧ fs[18]? = some v ∧ wX8_put B ad K 15 L (v :: r) σ := xr_getfield (t := 8) (j := 18) dX8_put_12 rfl
theorem eX8_put_15 : wX8_put B ad K 15 L r σ ↔ ∃ v, L[1]? = some (.int v) ∧ wX8_put B ad K 16 L (.int v :: r) σ := xr_iload_n dX8_put_15
theorem eX8_put_16 {a : Nat} {j : Int32} {x : Int32} : wX8_put B ad K 16 L (.int x :: .int j :: .ref a :: r) σ ↔ ∃ V, σ.1 a = some (100, V) ∧ (x_ix j V).isSome ∧ B ≤ a ∧ wX8_put B ad K 17 L r (x_up σ.1 a (100, V.set j.toInt.toNat (.int x)), σ.2) := xr_iastore dX8_put_16
theorem eX8_put_17 : wX8_put B ad K 17 L r σ ↔ ∃ v, L[0]? = some v ∧ x_rfv v ∧ wX8_put B ad K 18 L (v :: r) σ := xr_aload_n dX8_put_17
theorem eX8_put_18 {a : Nat} : wX8_put B ad K 18 L (.ref a :: r) σ ↔ ∃ fs v, σ.1 a = some (8, fs) ∧ fs[20]? = some v ∧ wX8_put B ad K 21 L (v :: r) σ := xr_getfield (t := 8) (j := 20) dX8_put_18 rfl
theorem eX8_put_21 : wX8_put B ad K 21 L r σ ↔ ∃ v, L[0]? = some v ∧ x_rfv v ∧ wX8_put B ad K 22 L (v :: r) σ := xr_aload_n dX8_put_21
theorem eX8_put_22 {a : Nat} : wX8_put B ad K 22 L (.ref a :: r) σ ↔ ∃ fs v, σ.1 a = some (8, fs) ∧ fs[18]? = some v ∧ wX8_put B ad K 25 L (v :: r) σ := xr_getfield (t := 8) (j := 18) dX8_put_22 rfl
theorem eX8_put_25 : wX8_put B ad K 25 L r σ ↔ ∃ v, L[0]? = some v ∧ x_rfv v ∧ wX8_put B ad K 26 L (v :: r) σ := xr_aload_n dX8_put_25
theorem eX8_put_26 {a : Nat} : wX8_put B ad K 26 L (.ref a :: r) σ ↔ ∃ fs v, σ.1 a = some (8, fs) ∧ fs[17]? = some v ∧ wX8_put B ad K 29 L (v :: r) σ := xr_getfield (t := 8) (j := 17) dX8_put_26 rfl
theorem eX8_put_29 : wX8_put B ad K 29 L r σ ↔ wX8_put B ad K 30 L (.int 0 :: r) σ := xr_iconst dX8_put_29 (by decide)
theorem eX8_put_30 {a : Nat} {x : Int32} : wX8_put B ad K 30 L (.int x :: .ref a :: r) σ ↔ ∃ t V v, σ.1 a = some (t, V) ∧ (t = 100 ∨ t = 106) ∧ x_ix x V = some v ∧ wX8_put B ad K 31 L (v :: r) σ := xr_iaload dX8_put_30
theorem eX8_put_31 {a : Nat} {j : Int32} {x : Int32} : wX8_put B ad K 31 L (.int x :: .int j :: .ref a :: r) σ ↔ ∃ V, σ.1 a = some (100, V) ∧ (x_ix j V).isSome ∧ B ≤ a ∧ wX8_put B ad K 32 L r (x_up σ.1 a (100, V.set j.toInt.toNat (.int x)), σ.2) := xr_iastore dX8_put_31
theorem eX8_put_32 : wX8_put B ad K 32 L r σ ↔ ∃ v, L[0]? = some v ∧ x_rfv v ∧ wX8_put B ad K 33 L (v :: r) σ := xr_aload_n dX8_put_32
theorem eX8_put_33 {a : Nat} : wX8_put B ad K 33 L (.ref a :: r) σ ↔ ∃ fs v, σ.1 a = some (8, fs) ∧ fs[21]? = some v ∧ wX8_put B ad K 36 L (v :: r) σ := xr_getfield (t := 8) (j := 21) dX8_put_33 rfl
theorem eX8_put_36 : wX8_put B ad K 36 L r σ ↔ ∃ v, L[0]? = some v ∧ x_rfv v ∧ wX8_put B ad K 37 L (v :: r) σ := xr_aload_n dX8_put_36
theorem eX8_put_37 {a : Nat} : wX8_put B ad K 37 L (.ref a :: r) σ ↔ ∃ fs v, σ.1 a = some (8, fs) ∧ fs[18]? = some v ∧ wX8_put B ad K 40 L (v :: r) σ := xr_getfield (t := 8) (j := 18) dX8_put_37 rfl
theorem eX8_put_40 : wX8_put B ad K 40 L r σ ↔ wX8_put B ad K 41 L (.int 0 :: r) σ := xr_iconst dX8_put_40 (by decide)
theorem eX8_put_41 {a : Nat} {j : Int32} {x : Int32} : wX8_put B ad K 41 L (.int x :: .int j :: .ref a :: r) σ ↔ ∃ V, σ.1 a = some (100, V) ∧ (x_ix j V).isSome ∧ B ≤ a ∧ wX8_put B ad K 42 L r (x_up σ.1 a (100, V.set j.toInt.toNat (.int x)), σ.2) := xr_iastore dX8_put_41
theorem eX8_put_42 : wX8_put B ad K 42 L r σ ↔ ∃ v, L[0]? = some v ∧ x_rfv v ∧ wX8_put B ad K 43 L (v :: r) σ := xr_aload_n dX8_put_42
theorem eX8_put_43 {a : Nat} : wX8_put B ad K 43 L (.ref a :: r) σ ↔ ∃ fs v, σ.1 a = some (8, fs) ∧ fs[22]? = some v ∧ wX8_put B ad K 46 L (v :: r) σ := xr_getfield (t := 8) (j := 22) dX8_put_43 rfl
theorem eX8_put_46 : wX8_put B ad K 46 L r σ ↔ ∃ v, L[0]? = some v ∧ x_rfv v ∧ wX8_put B ad K 47 L (v :: r) σ := xr_aload_n dX8_put_46
theorem eX8_put_47 {a : Nat} : wX8_put B ad K 47 L (.ref a :: r) σ ↔ ∃ fs v, σ.1 a = some (8, fs) ∧ fs[18]? = some v ∧ wX8_put B ad K 50 L (v :: r) σ := xr_getfield (t := 8) (j := 18) dX8_put_47 rfl
theorem eX8_put_50 : wX8_put B ad K 50 L r σ ↔ wX8_put B ad K 51 L (.int 0 :: r) σ := xr_iconst dX8_put_50 (by decide)
theorem eX8_put_51 {a : Nat} {j x : Int32} : wX8_put B ad K 51 L (.int x :: .int j :: .ref a :: r) σ ↔ ∃ V, σ.1 a = some (102, V) ∧ (x = 0 ∨ x = 1) ∧ (x_ix j V).isSome ∧ B ≤ a ∧ wX8_put B ad K 52 L r (x_up σ.1 a (102, V.set j.toInt.toNat (.int x)), σ.2) := xr_bastore dX8_put_51
theorem eX8_put_52 : wX8_put B ad K 52 L r σ ↔ ∃ v, L[0]? = some v ∧ x_rfv v ∧ wX8_put B ad K 53 L (v :: r) σ := xr_aload_n dX8_put_52
theorem eX8_put_53 {a : Nat} : wX8_put B ad K 53 L (.ref a :: r) σ ↔ ∃ fs v, σ.1 a = some (8, fs) ∧ fs[2]? = some v ∧ wX8_put B ad K 56 L (v :: r) σ := xr_getfield (t := 8) (j := 2) dX8_put_53 rfl
theorem eX8_put_56 : wX8_put B ad K 56 L r σ ↔ ∃ v, L[1]? = some (.int v) ∧ wX8_put B ad K 57 L (.int v :: r) σ := xr_iload_n dX8_put_56
theorem eX8_put_57 {a : Nat} {x : Int32} : wX8_put B ad K 57 L (.int x :: .ref a :: r) σ ↔ ∃ t V v, σ.1 a = some (t, V) ∧ (t = 100 ∨ t = 106) ∧ x_ix x V = some v ∧ wX8_put B ad K 58 L (v :: r) σ := xr_iaload dX8_put_57
theorem eX8_put_92 : wX8_put B ad K 92 L r σ ↔ ∃ v, L[0]? = some v ∧ x_rfv v ∧ wX8_put B ad K 93 L (v :: r) σ := xr_aload_n dX8_put_92
theorem eX8_put_93 {a : Nat} : wX8_put B ad K 93 L (.ref a :: r) σ ↔ ∃ fs v, σ.1 a = some (8, fs) ∧ fs[24]? = some v ∧ wX8_put B ad K 96 L (v :: r) σ := xr_getfield (t := 8) (j := 24) dX8_put_93 rfl
theorem eX8_put_96 : wX8_put B ad K 96 L r σ ↔ wX8_put B ad K 97 L (.int 0 :: r) σ := xr_iconst dX8_put_96 (by decide)
theorem eX8_put_97 {x : Int32} {b : Nat} : wX8_put B ad K 97 L (.int x :: .ref b :: r) σ ↔ wX8_put B ad K 98 L (.int x :: .ref b :: .int x :: .ref b :: r) σ := xr_dup2_ia dX8_put_97
theorem eX8_put_98 {a : Nat} {x : Int32} : wX8_put B ad K 98 L (.int x :: .ref a :: r) σ ↔ ∃ V v, σ.1 a = some (101, V) ∧ x_ix x V = some v ∧ wX8_put B ad K 99 L (v :: r) σ := xr_laload dX8_put_98
theorem eX8_put_99 : wX8_put B ad K 99 L r σ ↔ ∃ v, L[0]? = some v ∧ x_rfv v ∧ wX8_put B ad K 100 L (v :: r) σ := xr_aload_n dX8_put_99
theorem eX8_put_100 {a : Nat} : wX8_put B ad K 100 L (.ref a :: r) σ ↔ ∃ fs v, σ.1 a = some (8, fs) ∧ fs[23]? = some v ∧ wX8_put B ad K 103 L (v :: r) σ := xr_getfield (t := 8) (j := 23) dX8_put_100 rfl
theorem eX8_put_103 {x : Int32} : wX8_put B ad K 103 L (.int x :: r) σ ↔ (if x = 0 then wX8_put B ad K 106 L r σ else wX8_put B ad K 134 L r σ) := (xr_if_ne dX8_put_103 (by decide)).trans x_ite
theorem eX8_put_106 : wX8_put B ad K 106 L r σ ↔ ∃ v, L[0]? = some v ∧ x_rfv v ∧ wX8_put B ad K 107 L (v :: r) σ := xr_aload_n dX8_put_106
theorem eX8_put_107 {a : Nat} : wX8_put B ad K 107 L (.ref a :: r) σ ↔ ∃ fs v, σ.1 a = some (8, fs) ∧ fs[26]? = some v ∧ wX8_put B ad K 110 L (v :: r) σ := xr_getfield (t := 8) (j := 26) dX8_put_107 rfl
theorem eX8_put_110 : wX8_put B ad K 110 L r σ ↔ ∃ v, L[0]? = some v ∧ x_rfv v ∧ wX8_put B ad K 111 L (v :: r) σ := xr_aload_n dX8_put_110
theorem eX8_put_111 {a : Nat} : wX8_put B ad K 111 L (.ref a :: r) σ ↔ ∃ fs v, σ.1 a = some (8, fs) ∧ fs[3]? = some v ∧ wX8_put B ad K 114 L (v :: r) σ := xr_getfield (t := 8) (j := 3) dX8_put_111 rfl
theorem eX8_put_114 : wX8_put B ad K 114 L r σ ↔ ∃ v, L[1]? = some (.int v) ∧ wX8_put B ad K 115 L (.int v :: r) σ := xr_iload_n dX8_put_114
theorem eX8_put_115 {a : Nat} {x : Int32} : wX8_put B ad K 115 L (.int x :: .ref a :: r) σ ↔ ∃ t V v, σ.1 a = some (t, V) ∧ (t = 100 ∨ t = 106) ∧ x_ix x V = some v ∧ wX8_put B ad K 116 L (v :: r) σ := xr_iaload dX8_put_115
theorem eX8_put_116 {x y : Int32} : wX8_put B ad K 116 L (.int y :: .int x :: r) σ ↔ (if y.toInt < x.toInt then wX8_put B ad K 119 L r σ else wX8_put B ad K 134 L r σ) := (xr_icmp_le dX8_put_116 (by decide)).trans x_ite
theorem eX8_put_119 : wX8_put B ad K 119 L r σ ↔ ∃ v, L[0]? = some v ∧ x_rfv v ∧ wX8_put B ad K 120 L (v :: r) σ := xr_aload_n dX8_put_119
theorem eX8_put_120 {a : Nat} : wX8_put B ad K 120 L (.ref a :: r) σ ↔ ∃ fs v, σ.1 a = some (8, fs) ∧ fs[26]? = some v ∧ wX8_put B ad K 123 L (v :: r) σ := xr_getfield (t := 8) (j := 26) dX8_put_120 rfl
theorem eX8_put_123 : wX8_put B ad K 123 L r σ ↔ ∃ v, L[0]? = some v ∧ x_rfv v ∧ wX8_put B ad K 124 L (v :: r) σ := xr_aload_n dX8_put_123
theorem eX8_put_124 {a : Nat} : wX8_put B ad K 124 L (.ref a :: r) σ ↔ ∃ fs v, σ.1 a = some (8, fs) ∧ fs[3]? = some v ∧ wX8_put B ad K 127 L (v :: r) σ := xr_getfield (t := 8) (j := 3) dX8_put_124 rfl
theorem eX8_put_127 : wX8_put B ad K 127 L r σ ↔ ∃ v, L[1]? = some (.int v) ∧ wX8_put B ad K 128 L (.int v :: r) σ := xr_iload_n dX8_put_127
theorem eX8_put_128 {a : Nat} {x : Int32} : wX8_put B ad K 128 L (.int x :: .ref a :: r) σ ↔ ∃ t V v, σ.1 a = some (t, V) ∧ (t = 100 ∨ t = 106) ∧ x_ix x V = some v ∧ wX8_put B ad K 129 L (v :: r) σ := xr_iaload dX8_put_128
theorem eX8_put_129 {x y : Int32} : wX8_put B ad K 129 L (.int y :: .int x :: r) σ ↔ wX8_put B ad K 130 L (.int (x - y) :: r) σ := xr_isub dX8_put_129
theorem eX8_put_130 {x : Int32} : wX8_put B ad K 130 L (.int x :: r) σ ↔ wX8_put B ad K 131 L (.long x.toInt64 :: r) σ := xr_i2l dX8_put_130
theorem eX8_put_131 : wX8_put B ad K 131 L r σ ↔ wX8_put B ad K 135 L r σ := xr_goto dX8_put_131 (by decide)
theorem eX8_put_134 : wX8_put B ad K 134 L r σ ↔ wX8_put B ad K 135 L (.long 0 :: r) σ := xr_lconst dX8_put_134 (by decide)
theorem eX8_put_135 {x y : Int64} : wX8_put B ad K 135 L (.long y :: .long x :: r) σ ↔ wX8_put B ad K 136 L (.long (x + y) :: r) σ := xr_ladd dX8_put_135
theorem eX8_put_136 {a : Nat} {j : Int32} {x : Int64} : wX8_put B ad K 136 L (.long x :: .int j :: .ref a :: r) σ ↔ ∃ V, σ.1 a = some (101, V) ∧ (x_ix j V).isSome ∧ B ≤ a ∧ wX8_put B ad K 137 L r (x_up σ.1 a (101, V.set j.toInt.toNat (.long x)), σ.2) := xr_lastore dX8_put_136
theorem eX8_put_137 : wX8_put B ad K 137 L r σ ↔ ∃ v, L[0]? = some v ∧ x_rfv v ∧ wX8_put B ad K 138 L (v :: r) σ := xr_aload_n dX8_put_137
theorem eX8_put_138 : wX8_put B ad K 138 L r σ ↔ wX8_put B ad K 139 L (.int 1 :: r) σ := xr_iconst dX8_put_138 (by decide)
theorem eX8_put_139 {x : Int32} {a : Nat} : wX8_put B ad K 139 L (.int x :: .ref a :: r) σ ↔ ∃ fs, σ.1 a = some (8, fs) ∧ 23 < fs.length ∧ B ≤ a ∧ (x = 0 ∨ x = 1) ∧ wX8_put B ad K 142 L r (x_up σ.1 a (8, fs.set 23 (.int x)), σ.2) := xr_put_z (t := 8) (j := 23) dX8_put_139 rfl (by decide)
theorem eX8_put_142 : wX8_put B ad K 142 L r σ ↔ ∃ v, L[0]? = some v ∧ x_rfv v ∧ wX8_put B ad K 143 L (v :: r) σ := xr_aload_n dX8_put_142
theorem eX8_put_143 {a : Nat} : wX8_put B ad K 143 L (.ref a :: r) σ ↔ ∃ fs v, σ.1 a = some (8, fs) ∧ fs[24]? = some v ∧ wX8_put B ad K 146 L (v :: r) σ := xr_getfield (t := 8) (j := 24) dX8_put_143 rfl
theorem eX8_put_146 : wX8_put B ad K 146 L r σ ↔ wX8_put B ad K 147 L (.int 0 :: r) σ := xr_iconst dX8_put_146 (by decide)
theorem eX8_put_147 {x : Int32} {b : Nat} : wX8_put B ad K 147 L (.int x :: .ref b :: r) σ ↔ wX8_put B ad K 148 L (.int x :: .ref b :: .int x :: .ref b :: r) σ := xr_dup2_ia dX8_put_147
theorem eX8_put_148 {a : Nat} {x : Int32} : wX8_put B ad K 148 L (.int x :: .ref a :: r) σ ↔ ∃ V v, σ.1 a = some (101, V) ∧ x_ix x V = some v ∧ wX8_put B ad K 149 L (v :: r) σ := xr_laload dX8_put_148
theorem eX8_put_149 : wX8_put B ad K 149 L r σ ↔ ∃ v, L[0]? = some v ∧ x_rfv v ∧ wX8_put B ad K 150 L (v :: r) σ := xr_aload_n dX8_put_149
theorem eX8_put_150 {a : Nat} : wX8_put B ad K 150 L (.ref a :: r) σ ↔ ∃ fs v, σ.1 a = some (8, fs) ∧ fs[24]? = some v ∧ wX8_put B ad K 153 L (v :: r) σ := xr_getfield (t := 8) (j := 24) dX8_put_150 rfl
theorem eX8_put_153 : wX8_put B ad K 153 L r σ ↔ wX8_put B ad K 154 L (.int 2 :: r) σ := xr_iconst dX8_put_153 (by decide)
theorem eX8_put_154 {a : Nat} {x : Int32} : wX8_put B ad K 154 L (.int x :: .ref a :: r) σ ↔ ∃ V v, σ.1 a = some (101, V) ∧ x_ix x V = some v ∧ wX8_put B ad K 155 L (v :: r) σ := xr_laload dX8_put_154
theorem eX8_put_155 : wX8_put B ad K 155 L r σ ↔ ∃ v, L[0]? = some v ∧ x_rfv v ∧ wX8_put B ad K 156 L (v :: r) σ := xr_aload_n dX8_put_155
theorem eX8_put_156 {a : Nat} : wX8_put B ad K 156 L (.ref a :: r) σ ↔ ∃ fs v, σ.1 a = some (8, fs) ∧ fs[3]? = some v ∧ wX8_put B ad K 159 L (v :: r) σ := xr_getfield (t := 8) (j := 3) dX8_put_156 rfl
theorem eX8_put_159 : wX8_put B ad K 159 L r σ ↔ ∃ v, L[1]? = some (.int v) ∧ wX8_put B ad K 160 L (.int v :: r) σ := xr_iload_n dX8_put_159
theorem eX8_put_160 {a : Nat} {x : Int32} : wX8_put B ad K 160 L (.int x :: .ref a :: r) σ ↔ ∃ t V v, σ.1 a = some (t, V) ∧ (t = 100 ∨ t = 106) ∧ x_ix x V = some v ∧ wX8_put B ad K 161 L (v :: r) σ := xr_iaload dX8_put_160
theorem eX8_put_161 {x : Int32} : wX8_put B ad K 161 L (.int x :: r) σ ↔ wX8_put B ad K 162 L (.long x.toInt64 :: r) σ := xr_i2l dX8_put_161
theorem eX8_put_162 {x y : Int64} : wX8_put B ad K 162 L (.long y :: .long x :: r) σ ↔ wX8_put B ad K 163 L (.long (x + y) :: r) σ := xr_ladd dX8_put_162
theorem eX8_put_163 {x y : Int64} : wX8_put B ad K 163 L (.long y :: .long x :: r) σ ↔ wX8_put B ad K 164 L (.long (x + y) :: r) σ := xr_ladd dX8_put_163
theorem eX8_put_164 {a : Nat} {j : Int32} {x : Int64} : wX8_put B ad K 164 L (.long x :: .int j :: .ref a :: r) σ ↔ ∃ V, σ.1 a = some (101, V) ∧ (x_ix j V).isSome ∧ B ≤ a ∧ wX8_put B ad K 165 L r (x_up σ.1 a (101, V.set j.toInt.toNat (.long x)), σ.2) := xr_lastore dX8_put_164
theorem eX8_put_165 : wX8_put B ad K 165 L r σ ↔ ∃ v, L[0]? = some v ∧ x_rfv v ∧ wX8_put B ad K 166 L (v :: r) σ := xr_aload_n dX8_put_165
theorem eX8_put_166 {a : Nat} : wX8_put B ad K 166 L (.ref a :: r) σ ↔ ∃ fs v, σ.1 a = some (8, fs) ∧ fs[24]? = some v ∧ wX8_put B ad K 169 L (v :: r) σ := xr_getfield (t := 8) (j := 24) dX8_put_166 rfl
theorem eX8_put_169 : wX8_put B ad K 169 L r σ ↔ wX8_put B ad K 170 L (.int 2 :: r) σ := xr_iconst dX8_put_169 (by decide)
theorem eX8_put_170 : wX8_put B ad K 170 L r σ ↔ ∃ v, L[0]? = some v ∧ x_rfv v ∧ wX8_put B ad K 171 L (v :: r) σ := xr_aload_n dX8_put_170
theorem eX8_put_171 {a : Nat} : wX8_put B ad K 171 L (.ref a :: r) σ ↔ ∃ fs v, σ.1 a = some (8, fs) ∧ fs[4]? = some v ∧ wX8_put B ad K 174 L (v :: r) σ := xr_getfield (t := 8) (j := 4) dX8_put_171 rfl
theorem eX8_put_174 : wX8_put B ad K 174 L r σ ↔ ∃ v, L[1]? = some (.int v) ∧ wX8_put B ad K 175 L (.int v :: r) σ := xr_iload_n dX8_put_174
theorem eX8_put_175 {a : Nat} {x : Int32} : wX8_put B ad K 175 L (.int x :: .ref a :: r) σ ↔ ∃ t V v, σ.1 a = some (t, V) ∧ (t = 100 ∨ t = 106) ∧ x_ix x V = some v ∧ wX8_put B ad K 176 L (v :: r) σ := xr_iaload dX8_put_175
theorem eX8_put_176 {x : Int32} : wX8_put B ad K 176 L (.int x :: r) σ ↔ wX8_put B ad K 177 L (.long x.toInt64 :: r) σ := xr_i2l dX8_put_176
theorem eX8_put_177 {a : Nat} {j : Int32} {x : Int64} : wX8_put B ad K 177 L (.long x :: .int j :: .ref a :: r) σ ↔ ∃ V, σ.1 a = some (101, V) ∧ (x_ix j V).isSome ∧ B ≤ a ∧ wX8_put B ad K 178 L r (x_up σ.1 a (101, V.set j.toInt.toNat (.long x)), σ.2) := xr_lastore dX8_put_177
theorem eX8_put_178 : wX8_put B ad K 178 L r σ ↔ wX8_put B ad K 315 L r σ := xr_goto dX8_put_178 (by decide)
theorem eX8_put_181 : wX8_put B ad K 181 L r σ ↔ ∃ v, L[0]? = some v ∧ x_rfv v ∧ wX8_put B ad K 182 L (v :: r) σ := xr_aload_n dX8_put_181
theorem eX8_put_182 {a : Nat} : wX8_put B ad K 182 L (.ref a :: r) σ ↔ ∃ fs v, σ.1 a = some (8, fs) ∧ fs[24]? = some v ∧ wX8_put B ad K 185 L (v :: r) σ := xr_getfield (t := 8) (j := 24) dX8_put_182 rfl
theorem eX8_put_185 : wX8_put B ad K 185 L r σ ↔ wX8_put B ad K 186 L (.int 0 :: r) σ := xr_iconst dX8_put_185 (by decide)
theorem eX8_put_186 {x : Int32} {b : Nat} : wX8_put B ad K 186 L (.int x :: .ref b :: r) σ ↔ wX8_put B ad K 187 L (.int x :: .ref b :: .int x :: .ref b :: r) σ := xr_dup2_ia dX8_put_186
theorem eX8_put_187 {a : Nat} {x : Int32} : wX8_put B ad K 187 L (.int x :: .ref a :: r) σ ↔ ∃ V v, σ.1 a = some (101, V) ∧ x_ix x V = some v ∧ wX8_put B ad K 188 L (v :: r) σ := xr_laload dX8_put_187
theorem eX8_put_188 : wX8_put B ad K 188 L r σ ↔ ∃ v, L[0]? = some v ∧ x_rfv v ∧ wX8_put B ad K 189 L (v :: r) σ := xr_aload_n dX8_put_188
theorem eX8_put_189 {a : Nat} : wX8_put B ad K 189 L (.ref a :: r) σ ↔ ∃ fs v, σ.1 a = some (8, fs) ∧ fs[24]? = some v ∧ wX8_put B ad K 192 L (v :: r) σ := xr_getfield (t := 8) (j := 24) dX8_put_189 rfl
theorem eX8_put_192 : wX8_put B ad K 192 L r σ ↔ wX8_put B ad K 193 L (.int 2 :: r) σ := xr_iconst dX8_put_192 (by decide)
theorem eX8_put_193 {a : Nat} {x : Int32} : wX8_put B ad K 193 L (.int x :: .ref a :: r) σ ↔ ∃ V v, σ.1 a = some (101, V) ∧ x_ix x V = some v ∧ wX8_put B ad K 194 L (v :: r) σ := xr_laload dX8_put_193
theorem eX8_put_194 : wX8_put B ad K 194 L r σ ↔ ∃ v, L[0]? = some v ∧ x_rfv v ∧ wX8_put B ad K 195 L (v :: r) σ := xr_aload_n dX8_put_194
theorem eX8_put_195 {a : Nat} : wX8_put B ad K 195 L (.ref a :: r) σ ↔ ∃ fs v, σ.1 a = some (8, fs) ∧ fs[3]? = some v ∧ wX8_put B ad K 198 L (v :: r) σ := xr_getfield (t := 8) (j := 3) dX8_put_195 rfl
theorem eX8_put_198 : wX8_put B ad K 198 L r σ ↔ ∃ v, L[1]? = some (.int v) ∧ wX8_put B ad K 199 L (.int v :: r) σ := xr_iload_n dX8_put_198
theorem eX8_put_199 {a : Nat} {x : Int32} : wX8_put B ad K 199 L (.int x :: .ref a :: r) σ ↔ ∃ t V v, σ.1 a = some (t, V) ∧ (t = 100 ∨ t = 106) ∧ x_ix x V = some v ∧ wX8_put B ad K 200 L (v :: r) σ := xr_iaload dX8_put_199
theorem eX8_put_200 {x : Int32} : wX8_put B ad K 200 L (.int x :: r) σ ↔ wX8_put B ad K 201 L (.long x.toInt64 :: r) σ := xr_i2l dX8_put_200
theorem eX8_put_201 {x y : Int64} : wX8_put B ad K 201 L (.long y :: .long x :: r) σ ↔ wX8_put B ad K 202 L (.long (x + y) :: r) σ := xr_ladd dX8_put_201
theorem eX8_put_202 {x y : Int64} : wX8_put B ad K 202 L (.long y :: .long x :: r) σ ↔ wX8_put B ad K 203 L (.long (x + y) :: r) σ := xr_ladd dX8_put_202
theorem eX8_put_203 {a : Nat} {j : Int32} {x : Int64} : wX8_put B ad K 203 L (.long x :: .int j :: .ref a :: r) σ ↔ ∃ V, σ.1 a = some (101, V) ∧ (x_ix j V).isSome ∧ B ≤ a ∧ wX8_put B ad K 204 L r (x_up σ.1 a (101, V.set j.toInt.toNat (.long x)), σ.2) := xr_lastore dX8_put_203
theorem eX8_put_204 : wX8_put B ad K 204 L r σ ↔ ∃ v, L[0]? = some v ∧ x_rfv v ∧ wX8_put B ad K 205 L (v :: r) σ := xr_aload_n dX8_put_204
theorem eX8_put_205 {a : Nat} : wX8_put B ad K 205 L (.ref a :: r) σ ↔ ∃ fs v, σ.1 a = some (8, fs) ∧ fs[24]? = some v ∧ wX8_put B ad K 208 L (v :: r) σ := xr_getfield (t := 8) (j := 24) dX8_put_205 rfl
theorem eX8_put_208 : wX8_put B ad K 208 L r σ ↔ wX8_put B ad K 209 L (.int 2 :: r) σ := xr_iconst dX8_put_208 (by decide)
theorem eX8_put_209 : wX8_put B ad K 209 L r σ ↔ wX8_put B ad K 210 L (.long 0 :: r) σ := xr_lconst dX8_put_209 (by decide)
theorem eX8_put_210 {a : Nat} {j : Int32} {x : Int64} : wX8_put B ad K 210 L (.long x :: .int j :: .ref a :: r) σ ↔ ∃ V, σ.1 a = some (101, V) ∧ (x_ix j V).isSome ∧ B ≤ a ∧ wX8_put B ad K 211 L r (x_up σ.1 a (101, V.set j.toInt.toNat (.long x)), σ.2) := xr_lastore dX8_put_210
theorem eX8_put_211 : wX8_put B ad K 211 L r σ ↔ ∃ v, L[0]? = some v ∧ x_rfv v ∧ wX8_put B ad K 212 L (v :: r) σ := xr_aload_n dX8_put_211
theorem eX8_put_212 {a : Nat} : wX8_put B ad K 212 L (.ref a :: r) σ ↔ ∃ fs v, σ.1 a = some (8, fs) ∧ fs[24]? = some v ∧ wX8_put B ad K 215 L (v :: r) σ := xr_getfield (t := 8) (j := 24) dX8_put_212 rfl
theorem eX8_put_215 : wX8_put B ad K 215 L r σ ↔ wX8_put B ad K 216 L (.int 3 :: r) σ := xr_iconst dX8_put_215 (by decide)
theorem eX8_put_216 : wX8_put B ad K 216 L r σ ↔ ∃ v, L[0]? = some v ∧ x_rfv v ∧ wX8_put B ad K 217 L (v :: r) σ := xr_aload_n dX8_put_216
theorem eX8_put_217 {a : Nat} : wX8_put B ad K 217 L (.ref a :: r) σ ↔ ∃ fs v, σ.1 a = some (8, fs) ∧ fs[5]? = some v ∧ wX8_put B ad K 220 L (v :: r) σ := xr_getfield (t := 8) (j := 5) dX8_put_217 rfl
theorem eX8_put_220 : wX8_put B ad K 220 L r σ ↔ ∃ v, L[1]? = some (.int v) ∧ wX8_put B ad K 221 L (.int v :: r) σ := xr_iload_n dX8_put_220
theorem eX8_put_221 {a : Nat} {x : Int32} : wX8_put B ad K 221 L (.int x :: .ref a :: r) σ ↔ ∃ t V v, σ.1 a = some (t, V) ∧ (t = 100 ∨ t = 106) ∧ x_ix x V = some v ∧ wX8_put B ad K 222 L (v :: r) σ := xr_iaload dX8_put_221
theorem eX8_put_222 {x y : Int32} : wX8_put B ad K 222 L (.int y :: .int x :: r) σ ↔ wX8_put B ad K 223 L (.int (x + y) :: r) σ := xr_iadd dX8_put_222
theorem eX8_put_223 {x : Int32} {b : Nat} : wX8_put B ad K 223 L (.int x :: .ref b :: r) σ ↔ wX8_put B ad K 224 L (.int x :: .ref b :: .int x :: .ref b :: r) σ := xr_dup2_ia dX8_put_223
theorem eX8_put_224 {a : Nat} {x : Int32} : wX8_put B ad K 224 L (.int x :: .ref a :: r) σ ↔ ∃ V v, σ.1 a = some (101, V) ∧ x_ix x V = some v ∧ wX8_put B ad K 225 L (v :: r) σ := xr_laload dX8_put_224
theorem eX8_put_225 : wX8_put B ad K 225 L r σ ↔ ∃ v, L[0]? = some v ∧ x_rfv v ∧ wX8_put B ad K 226 L (v :: r) σ := xr_aload_n dX8_put_225
theorem eX8_put_226 {a : Nat} : wX8_put B ad K 226 L (.ref a :: r) σ ↔ ∃ fs v, σ.1 a = some (8, fs) ∧ fs[4]? = some v ∧ wX8_put B ad K 229 L (v :: r) σ := xr_getfield (t := 8) (j := 4) dX8_put_226 rfl
theorem eX8_put_229 : wX8_put B ad K 229 L r σ ↔ ∃ v, L[1]? = some (.int v) ∧ wX8_put B ad K 230 L (.int v :: r) σ := xr_iload_n dX8_put_229
theorem eX8_put_230 {a : Nat} {x : Int32} : wX8_put B ad K 230 L (.int x :: .ref a :: r) σ ↔ ∃ t V v, σ.1 a = some (t, V) ∧ (t = 100 ∨ t = 106) ∧ x_ix x V = some v ∧ wX8_put B ad K 231 L (v :: r) σ := xr_iaload dX8_put_230
theorem eX8_put_231 {x : Int32} : wX8_put B ad K 231 L (.int x :: r) σ ↔ wX8_put B ad K 232 L (.long x.toInt64 :: r) σ := xr_i2l dX8_put_231
theorem eX8_put_232 {x y : Int64} : wX8_put B ad K 232 L (.long y :: .long x :: r) σ ↔ wX8_put B ad K 233 L (.long (x + y) :: r) σ := xr_ladd dX8_put_232
theorem eX8_put_233 {a : Nat} {j : Int32} {x : Int64} : wX8_put B ad K 233 L (.long x :: .int j :: .ref a :: r) σ ↔ ∃ V, σ.1 a = some (101, V) ∧ (x_ix j V).isSome ∧ B ≤ a ∧ wX8_put B ad K 234 L r (x_up σ.1 a (101, V.set j.toInt.toNat (.long x)), σ.2) := xr_lastore dX8_put_233
theorem eX8_put_234 : wX8_put B ad K 234 L r σ ↔ ∃ v, L[0]? = some v ∧ x_rfv v ∧ wX8_put B ad K 235 L (v :: r) σ := xr_aload_n dX8_put_234
theorem eX8_put_235 {a : Nat} : wX8_put B ad K 235 L (.ref a :: r) σ ↔ ∃ fs v, σ.1 a = some (8, fs) ∧ fs[24]? = some v ∧ wX8_put B ad K 238 L (v :: r) σ := xr_getfield (t := 8) (j := 24) dX8_put_235 rfl
theorem eX8_put_238 : wX8_put B ad K 238 L r σ ↔ wX8_put B ad K 240 L (.int 7 :: r) σ := xr_bipush dX8_put_238 (by decide)
theorem eX8_put_240 {x : Int32} {b : Nat} : wX8_put B ad K 240 L (.int x :: .ref b :: r) σ ↔ wX8_put B ad K 241 L (.int x :: .ref b :: .int x :: .ref b :: r) σ := xr_dup2_ia dX8_put_240
theorem eX8_put_241 {a : Nat} {x : Int32} : wX8_put B ad K 241 L (.int x :: .ref a :: r) σ ↔ ∃ V v, σ.1 a = some (101, V) ∧ x_ix x V = some v ∧ wX8_put B ad K 242 L (v :: r) σ := xr_laload dX8_put_241
theorem eX8_put_242 : wX8_put B ad K 242 L r σ ↔ ∃ v, L[0]? = some v ∧ x_rfv v ∧ wX8_put B ad K 243 L (v :: r) σ := xr_aload_n dX8_put_242
theorem eX8_put_243 {a : Nat} : wX8_put B ad K 243 L (.ref a :: r) σ ↔ ∃ fs v, σ.1 a = some (8, fs) ∧ fs[6]? = some v ∧ wX8_put B ad K 246 L (v :: r) σ := xr_getfield (t := 8) (j := 6) dX8_put_243 rfl
theorem eX8_put_246 : wX8_put B ad K 246 L r σ ↔ ∃ v, L[1]? = some (.int v) ∧ wX8_put B ad K 247 L (.int v :: r) σ := xr_iload_n dX8_put_246
theorem eX8_put_247 {a : Nat} {x : Int32} : wX8_put B ad K 247 L (.int x :: .ref a :: r) σ ↔ ∃ t V v, σ.1 a = some (t, V) ∧ (t = 100 ∨ t = 106) ∧ x_ix x V = some v ∧ wX8_put B ad K 248 L (v :: r) σ := xr_iaload dX8_put_247
theorem eX8_put_248 {x : Int32} : wX8_put B ad K 248 L (.int x :: r) σ ↔ wX8_put B ad K 249 L (.long x.toInt64 :: r) σ := xr_i2l dX8_put_248
theorem eX8_put_249 {x y : Int64} : wX8_put B ad K 249 L (.long y :: .long x :: r) σ ↔ wX8_put B ad K 250 L (.long (x + y) :: r) σ := xr_ladd dX8_put_249
theorem eX8_put_250 {a : Nat} {j : Int32} {x : Int64} : wX8_put B ad K 250 L (.long x :: .int j :: .ref a :: r) σ ↔ ∃ V, σ.1 a = some (101, V) ∧ (x_ix j V).isSome ∧ B ≤ a ∧ wX8_put B ad K 251 L r (x_up σ.1 a (101, V.set j.toInt.toNat (.long x)), σ.2) := xr_lastore dX8_put_250
theorem eX8_put_251 : wX8_put B ad K 251 L r σ ↔ wX8_put B ad K 315 L r σ := xr_goto dX8_put_251 (by decide)
theorem eX8_put_254 : wX8_put B ad K 254 L r σ ↔ ∃ v, L[0]? = some v ∧ x_rfv v ∧ wX8_put B ad K 255 L (v :: r) σ := xr_aload_n dX8_put_254
theorem eX8_put_255 {a : Nat} : wX8_put B ad K 255 L (.ref a :: r) σ ↔ ∃ fs v, σ.1 a = some (8, fs) ∧ fs[24]? = some v ∧ wX8_put B ad K 258 L (v :: r) σ := xr_getfield (t := 8) (j := 24) dX8_put_255 rfl
theorem eX8_put_258 : wX8_put B ad K 258 L r σ ↔ wX8_put B ad K 259 L (.int 0 :: r) σ := xr_iconst dX8_put_258 (by decide)
theorem eX8_put_259 {x : Int32} {b : Nat} : wX8_put B ad K 259 L (.int x :: .ref b :: r) σ ↔ wX8_put B ad K 260 L (.int x :: .ref b :: .int x :: .ref b :: r) σ := xr_dup2_ia dX8_put_259
theorem eX8_put_260 {a : Nat} {x : Int32} : wX8_put B ad K 260 L (.int x :: .ref a :: r) σ ↔ ∃ V v, σ.1 a = some (101, V) ∧ x_ix x V = some v ∧ wX8_put B ad K 261 L (v :: r) σ := xr_laload dX8_put_260
theorem eX8_put_261 : wX8_put B ad K 261 L r σ ↔ ∃ v, L[0]? = some v ∧ x_rfv v ∧ wX8_put B ad K 262 L (v :: r) σ := xr_aload_n dX8_put_261
theorem eX8_put_262 {a : Nat} : wX8_put B ad K 262 L (.ref a :: r) σ ↔ ∃ fs v, σ.1 a = some (8, fs) ∧ fs[24]? = some v ∧ wX8_put B ad K 265 L (v :: r) σ := xr_getfield (t := 8) (j := 24) dX8_put_262 rfl
theorem eX8_put_265 : wX8_put B ad K 265 L r σ ↔ wX8_put B ad K 266 L (.int 2 :: r) σ := xr_iconst dX8_put_265 (by decide)
theorem eX8_put_266 {a : Nat} {x : Int32} : wX8_put B ad K 266 L (.int x :: .ref a :: r) σ ↔ ∃ V v, σ.1 a = some (101, V) ∧ x_ix x V = some v ∧ wX8_put B ad K 267 L (v :: r) σ := xr_laload dX8_put_266
theorem eX8_put_267 : wX8_put B ad K 267 L r σ ↔ ∃ v, L[0]? = some v ∧ x_rfv v ∧ wX8_put B ad K 268 L (v :: r) σ := xr_aload_n dX8_put_267
theorem eX8_put_268 {a : Nat} : wX8_put B ad K 268 L (.ref a :: r) σ ↔ ∃ fs v, σ.1 a = some (8, fs) ∧ fs[3]? = some v ∧ wX8_put B ad K 271 L (v :: r) σ := xr_getfield (t := 8) (j := 3) dX8_put_268 rfl
theorem eX8_put_271 : wX8_put B ad K 271 L r σ ↔ ∃ v, L[1]? = some (.int v) ∧ wX8_put B ad K 272 L (.int v :: r) σ := xr_iload_n dX8_put_271
theorem eX8_put_272 {a : Nat} {x : Int32} : wX8_put B ad K 272 L (.int x :: .ref a :: r) σ ↔ ∃ t V v, σ.1 a = some (t, V) ∧ (t = 100 ∨ t = 106) ∧ x_ix x V = some v ∧ wX8_put B ad K 273 L (v :: r) σ := xr_iaload dX8_put_272
theorem eX8_put_273 {x : Int32} : wX8_put B ad K 273 L (.int x :: r) σ ↔ wX8_put B ad K 274 L (.long x.toInt64 :: r) σ := xr_i2l dX8_put_273
theorem eX8_put_274 {x y : Int64} : wX8_put B ad K 274 L (.long y :: .long x :: r) σ ↔ wX8_put B ad K 275 L (.long (x + y) :: r) σ := xr_ladd dX8_put_274
theorem eX8_put_275 {x y : Int64} : wX8_put B ad K 275 L (.long y :: .long x :: r) σ ↔ wX8_put B ad K 276 L (.long (x + y) :: r) σ := xr_ladd dX8_put_275
theorem eX8_put_276 {a : Nat} {j : Int32} {x : Int64} : wX8_put B ad K 276 L (.long x :: .int j :: .ref a :: r) σ ↔ ∃ V, σ.1 a = some (101, V) ∧ (x_ix j V).isSome ∧ B ≤ a ∧ wX8_put B ad K 277 L r (x_up σ.1 a (101, V.set j.toInt.toNat (.long x)), σ.2) := xr_lastore dX8_put_276
theorem eX8_put_277 : wX8_put B ad K 277 L r σ ↔ ∃ v, L[0]? = some v ∧ x_rfv v ∧ wX8_put B ad K 278 L (v :: r) σ := xr_aload_n dX8_put_277
theorem eX8_put_278 {a : Nat} : wX8_put B ad K 278 L (.ref a :: r) σ ↔ ∃ fs v, σ.1 a = some (8, fs) ∧ fs[24]? = some v ∧ wX8_put B ad K 281 L (v :: r) σ := xr_getfield (t := 8) (j := 24) dX8_put_278 rfl
theorem eX8_put_281 : wX8_put B ad K 281 L r σ ↔ wX8_put B ad K 282 L (.int 2 :: r) σ := xr_iconst dX8_put_281 (by decide)
theorem eX8_put_282 : wX8_put B ad K 282 L r σ ↔ wX8_put B ad K 283 L (.long 0 :: r) σ := xr_lconst dX8_put_282 (by decide)
theorem eX8_put_283 {a : Nat} {j : Int32} {x : Int64} : wX8_put B ad K 283 L (.long x :: .int j :: .ref a :: r) σ ↔ ∃ V, σ.1 a = some (101, V) ∧ (x_ix j V).isSome ∧ B ≤ a ∧ wX8_put B ad K 284 L r (x_up σ.1 a (101, V.set j.toInt.toNat (.long x)), σ.2) := xr_lastore dX8_put_283
theorem eX8_put_284 : wX8_put B ad K 284 L r σ ↔ wX8_put B ad K 315 L r σ := xr_goto dX8_put_284 (by decide)
theorem eX8_put_287 : wX8_put B ad K 287 L r σ ↔ ∃ v, L[0]? = some v ∧ x_rfv v ∧ wX8_put B ad K 288 L (v :: r) σ := xr_aload_n dX8_put_287
theorem eX8_put_288 : wX8_put B ad K 288 L r σ ↔ ∃ v, L[0]? = some v ∧ x_rfv v ∧ wX8_put B ad K 289 L (v :: r) σ := xr_aload_n dX8_put_288
theorem eX8_put_289 {a : Nat} : wX8_put B ad K 289 L (.ref a :: r) σ ↔ ∃ fs v, σ.1 a = some (8, fs) ∧ fs[3]? = some v ∧ wX8_put B ad K 292 L (v :: r) σ := xr_getfield (t := 8) (j := 3) dX8_put_289 rfl
theorem eX8_put_292 : wX8_put B ad K 292 L r σ ↔ ∃ v, L[1]? = some (.int v) ∧ wX8_put B ad K 293 L (.int v :: r) σ := xr_iload_n dX8_put_292
theorem eX8_put_293 {a : Nat} {x : Int32} : wX8_put B ad K 293 L (.int x :: .ref a :: r) σ ↔ ∃ t V v, σ.1 a = some (t, V) ∧ (t = 100 ∨ t = 106) ∧ x_ix x V = some v ∧ wX8_put B ad K 294 L (v :: r) σ := xr_iaload dX8_put_293
theorem eX8_put_294 : wX8_put B ad K 294 L r σ ↔ ∃ v, L[0]? = some v ∧ x_rfv v ∧ wX8_put B ad K 295 L (v :: r) σ := xr_aload_n dX8_put_294
theorem eX8_put_295 {a : Nat} : wX8_put B ad K 295 L (.ref a :: r) σ ↔ ∃ fs v, σ.1 a = some (8, fs) ∧ fs[5]? = some v ∧ wX8_put B ad K 298 L (v :: r) σ := xr_getfield (t := 8) (j := 5) dX8_put_295 rfl
theorem eX8_put_298 : wX8_put B ad K 298 L r σ ↔ ∃ v, L[1]? = some (.int v) ∧ wX8_put B ad K 299 L (.int v :: r) σ := xr_iload_n dX8_put_298
theorem eX8_put_299 {a : Nat} {x : Int32} : wX8_put B ad K 299 L (.int x :: .ref a :: r) σ ↔ ∃ t V v, σ.1 a = some (t, V) ∧ (t = 100 ∨ t = 106) ∧ x_ix x V = some v ∧ wX8_put B ad K 300 L (v :: r) σ := xr_iaload dX8_put_299
theorem eX8_put_300 : wX8_put B ad K 300 L r σ ↔ wX8_put B ad K 301 L (.int 1 :: r) σ := xr_iconst dX8_put_300 (by decide)
theorem eX8_put_301 {x y : Int32} : wX8_put B ad K 301 L (.int y :: .int x :: r) σ ↔ (if x = y then wX8_put B ad K 304 L r σ else wX8_put B ad K 308 L r σ) := (xr_icmp_ne dX8_put_301 (by decide)).trans x_ite
theorem eX8_put_304 : wX8_put B ad K 304 L r σ ↔ wX8_put B ad K 305 L (.int 1 :: r) σ := xr_iconst dX8_put_304 (by decide)
theorem eX8_put_305 : wX8_put B ad K 305 L r σ ↔ wX8_put B ad K 309 L r σ := xr_goto dX8_put_305 (by decide)
theorem eX8_put_308 : wX8_put B ad K 308 L r σ ↔ wX8_put B ad K 309 L (.int 0 :: r) σ := xr_iconst dX8_put_308 (by decide)
theorem eX8_put_309 {v0 v1 v2 : Value} : wX8_put B ad K 309 L (v2 :: v1 :: v0 :: r) σ ↔ ((r.map fun v => v.category).sum ≤ 8 ∧ x_cl (x_v 8 (eX8_putInsert B ad)) [v0, v1, v2] σ (fun v g => wX8_put B ad K 312 L (v.toList ++ r) g)) := xr_callV [v0, v1, v2] r dX8_put_309 rfl
theorem eX8_put_312 : wX8_put B ad K 312 L r σ ↔ wX8_put B ad K 315 L r σ := xr_goto dX8_put_312 (by decide)
theorem eX8_put_315 : wX8_put B ad K 315 L r σ ↔ ∃ v, L[0]? = some v ∧ x_rfv v ∧ wX8_put B ad K 316 L (v :: r) σ := xr_aload_n dX8_put_315
theorem eX8_put_316 {a : Nat} : wX8_put B ad K 316 L (.ref a :: r) σ ↔ ∃ fs v, σ.1 a = some (8, fs) ∧ fs[2]? = some v ∧ wX8_put B ad K 319 L (v :: r) σ := xr_getfield (t := 8) (j := 2) dX8_put_316 rfl
theorem eX8_put_319 : wX8_put B ad K 319 L r σ ↔ ∃ v, L[1]? = some (.int v) ∧ wX8_put B ad K 320 L (.int v :: r) σ := xr_iload_n dX8_put_319
theorem eX8_put_320 {a : Nat} {x : Int32} : wX8_put B ad K 320 L (.int x :: .ref a :: r) σ ↔ ∃ t V v, σ.1 a = some (t, V) ∧ (t = 100 ∨ t = 106) ∧ x_ix x V = some v ∧ wX8_put B ad K 321 L (v :: r) σ := xr_iaload dX8_put_320
theorem eX8_put_321 : wX8_put B ad K 321 L r σ ↔ wX8_put B ad K 322 L (.int 2 :: r) σ := xr_iconst dX8_put_321 (by decide)
theorem eX8_put_322 {x y : Int32} : wX8_put B ad K 322 L (.int y :: .int x :: r) σ ↔ (if y.toInt < x.toInt then wX8_put B ad K 372 L r σ else wX8_put B ad K 325 L r σ) := (xr_icmp_gt dX8_put_322 (by decide)).trans x_ite
theorem eX8_put_325 : wX8_put B ad K 325 L r σ ↔ ∃ v, L[0]? = some v ∧ x_rfv v ∧ wX8_put B ad K 326 L (v :: r) σ := xr_aload_n dX8_put_325
theorem eX8_put_326 {a : Nat} : wX8_put B ad K 326 L (.ref a :: r) σ ↔ ∃ fs v, σ.1 a = some (8, fs) ∧ fs[24]? = some v ∧ wX8_put B ad K 329 L (v :: r) σ := xr_getfield (t := 8) (j := 24) dX8_put_326 rfl
theorem eX8_put_329 : wX8_put B ad K 329 L r σ ↔ wX8_put B ad K 330 L (.int 2 :: r) σ := xr_iconst dX8_put_329 (by decide)
theorem eX8_put_330 {a : Nat} {x : Int32} : wX8_put B ad K 330 L (.int x :: .ref a :: r) σ ↔ ∃ V v, σ.1 a = some (101, V) ∧ x_ix x V = some v ∧ wX8_put B ad K 331 L (v :: r) σ := xr_laload dX8_put_330
theorem eX8_put_331 : wX8_put B ad K 331 L r σ ↔ ∃ v, L[0]? = some v ∧ x_rfv v ∧ wX8_put B ad K 332 L (v :: r) σ := xr_aload_n dX8_put_331
theorem eX8_put_332 {a : Nat} : wX8_put B ad K 332 L (.ref a :: r) σ ↔ ∃ fs v, σ.1 a = some (8, fs) ∧ fs[25]? = some v ∧ wX8_put B ad K 335 L (v :: r) σ := xr_getfield (t := 8) (j := 25) dX8_put_332 rfl
theorem eX8_put_335 {x : Int32} : wX8_put B ad K 335 L (.int x :: r) σ ↔ wX8_put B ad K 336 L (.long x.toInt64 :: r) σ := xr_i2l dX8_put_335
theorem eX8_put_336 {x y : Int64} : wX8_put B ad K 336 L (.long y :: .long x :: r) σ ↔ wX8_put B ad K 337 L (.int (lg_cmp x y) :: r) σ := xr_lcmp dX8_put_336
theorem eX8_put_337 {x : Int32} : wX8_put B ad K 337 L (.int x :: r) σ ↔ (if 0 < x.toInt then wX8_put B ad K 340 L r σ else wX8_put B ad K 372 L r σ) := (xr_if_le dX8_put_337 (by decide)).trans x_ite
theorem eX8_put_340 : wX8_put B ad K 340 L r σ ↔ ∃ v, L[0]? = some v ∧ x_rfv v ∧ wX8_put B ad K 341 L (v :: r) σ := xr_aload_n dX8_put_340
theorem eX8_put_341 {a : Nat} : wX8_put B ad K 341 L (.ref a :: r) σ ↔ ∃ fs v, σ.1 a = some (8, fs) ∧ fs[24]? = some v ∧ wX8_put B ad K 344 L (v :: r) σ := xr_getfield (t := 8) (j := 24) dX8_put_341 rfl
theorem eX8_put_344 : wX8_put B ad K 344 L r σ ↔ wX8_put B ad K 345 L (.int 0 :: r) σ := xr_iconst dX8_put_344 (by decide)
theorem eX8_put_345 {x : Int32} {b : Nat} : wX8_put B ad K 345 L (.int x :: .ref b :: r) σ ↔ wX8_put B ad K 346 L (.int x :: .ref b :: .int x :: .ref b :: r) σ := xr_dup2_ia dX8_put_345
theorem eX8_put_346 {a : Nat} {x : Int32} : wX8_put B ad K 346 L (.int x :: .ref a :: r) σ ↔ ∃ V v, σ.1 a = some (101, V) ∧ x_ix x V = some v ∧ wX8_put B ad K 347 L (v :: r) σ := xr_laload dX8_put_346
theorem eX8_put_347 : wX8_put B ad K 347 L r σ ↔ ∃ v, L[0]? = some v ∧ x_rfv v ∧ wX8_put B ad K 348 L (v :: r) σ := xr_aload_n dX8_put_347
theorem eX8_put_348 {a : Nat} : wX8_put B ad K 348 L (.ref a :: r) σ ↔ ∃ fs v, σ.1 a = some (8, fs) ∧ fs[24]? = some v ∧ wX8_put B ad K 351 L (v :: r) σ := xr_getfield (t := 8) (j := 24) dX8_put_348 rfl
theorem eX8_put_351 : wX8_put B ad K 351 L r σ ↔ wX8_put B ad K 352 L (.int 2 :: r) σ := xr_iconst dX8_put_351 (by decide)
theorem eX8_put_352 {a : Nat} {x : Int32} : wX8_put B ad K 352 L (.int x :: .ref a :: r) σ ↔ ∃ V v, σ.1 a = some (101, V) ∧ x_ix x V = some v ∧ wX8_put B ad K 353 L (v :: r) σ := xr_laload dX8_put_352
theorem eX8_put_353 : wX8_put B ad K 353 L r σ ↔ ∃ v, L[0]? = some v ∧ x_rfv v ∧ wX8_put B ad K 354 L (v :: r) σ := xr_aload_n dX8_put_353
theorem eX8_put_354 {a : Nat} : wX8_put B ad K 354 L (.ref a :: r) σ ↔ ∃ fs v, σ.1 a = some (8, fs) ∧ fs[25]? = some v ∧ wX8_put B ad K 357 L (v :: r) σ := xr_getfield (t := 8) (j := 25) dX8_put_354 rfl
theorem eX8_put_357 {x : Int32} : wX8_put B ad K 357 L (.int x :: r) σ ↔ wX8_put B ad K 358 L (.long x.toInt64 :: r) σ := xr_i2l dX8_put_357
theorem eX8_put_358 {x y : Int64} : wX8_put B ad K 358 L (.long y :: .long x :: r) σ ↔ wX8_put B ad K 359 L (.long (x - y) :: r) σ := xr_lsub dX8_put_358
theorem eX8_put_359 {x y : Int64} : wX8_put B ad K 359 L (.long y :: .long x :: r) σ ↔ wX8_put B ad K 360 L (.long (x + y) :: r) σ := xr_ladd dX8_put_359
theorem eX8_put_360 {a : Nat} {j : Int32} {x : Int64} : wX8_put B ad K 360 L (.long x :: .int j :: .ref a :: r) σ ↔ ∃ V, σ.1 a = some (101, V) ∧ (x_ix j V).isSome ∧ B ≤ a ∧ wX8_put B ad K 361 L r (x_up σ.1 a (101, V.set j.toInt.toNat (.long x)), σ.2) := xr_lastore dX8_put_360
theorem eX8_put_361 : wX8_put B ad K 361 L r σ ↔ ∃ v, L[0]? = some v ∧ x_rfv v ∧ wX8_put B ad K 362 L (v :: r) σ := xr_aload_n dX8_put_361
theorem eX8_put_362 {a : Nat} : wX8_put B ad K 362 L (.ref a :: r) σ ↔ ∃ fs v, σ.1 a = some (8, fs) ∧ fs[24]? = some v ∧ wX8_put B ad K 365 L (v :: r) σ := xr_getfield (t := 8) (j := 24) dX8_put_362 rfl
theorem eX8_put_365 : wX8_put B ad K 365 L r σ ↔ wX8_put B ad K 366 L (.int 2 :: r) σ := xr_iconst dX8_put_365 (by decide)
theorem eX8_put_366 : wX8_put B ad K 366 L r σ ↔ ∃ v, L[0]? = some v ∧ x_rfv v ∧ wX8_put B ad K 367 L (v :: r) σ := xr_aload_n dX8_put_366
theorem eX8_put_367 {a : Nat} : wX8_put B ad K 367 L (.ref a :: r) σ ↔ ∃ fs v, σ.1 a = some (8, fs) ∧ fs[25]? = some v ∧ wX8_put B ad K 370 L (v :: r) σ := xr_getfield (t := 8) (j := 25) dX8_put_367 rfl
theorem eX8_put_370 {x : Int32} : wX8_put B ad K 370 L (.int x :: r) σ ↔ wX8_put B ad K 371 L (.long x.toInt64 :: r) σ := xr_i2l dX8_put_370
theorem eX8_put_371 {a : Nat} {j : Int32} {x : Int64} : wX8_put B ad K 371 L (.long x :: .int j :: .ref a :: r) σ ↔ ∃ V, σ.1 a = some (101, V) ∧ (x_ix j V).isSome ∧ B ≤ a ∧ wX8_put B ad K 372 L r (x_up σ.1 a (101, V.set j.toInt.toNat (.long x)), σ.2) := xr_lastore dX8_put_371
theorem eX8_put_372 : wX8_put B ad K 372 L r σ ↔ ∃ v, L[0]? = some v ∧ x_rfv v ∧ wX8_put B ad K 373 L (v :: r) σ := xr_aload_n dX8_put_372
theorem eX8_put_373 {v : Value} : wX8_put B ad K 373 L (v :: r) σ ↔ (v.category = 1 ∧ wX8_put B ad K 374 L (v :: v :: r) σ) := xr_dup dX8_put_373
theorem eX8_put_374 {a : Nat} : wX8_put B ad K 374 L (.ref a :: r) σ ↔ ∃ fs v, σ.1 a = some (8, fs) ∧ fs[18]? = some v ∧ wX8_put B ad K 377 L (v :: r) σ := xr_getfield (t := 8) (j := 18) dX8_put_374 rfl
theorem eX8_put_377 : wX8_put B ad K 377 L r σ ↔ wX8_put B ad K 378 L (.int 1 :: r) σ := xr_iconst dX8_put_377 (by decide)
theorem eX8_put_378 {x y : Int32} : wX8_put B ad K 378 L (.int y :: .int x :: r) σ ↔ wX8_put B ad K 379 L (.int (x + y) :: r) σ := xr_iadd dX8_put_378
theorem eX8_put_379 {x : Int32} {a : Nat} : wX8_put B ad K 379 L (.int x :: .ref a :: r) σ ↔ ∃ fs, σ.1 a = some (8, fs) ∧ 18 < fs.length ∧ B ≤ a ∧ wX8_put B ad K 382 L r (x_up σ.1 a (8, fs.set 18 (.int x)), σ.2) := xr_put_i (t := 8) (j := 18) dX8_put_379 rfl (by decide)
theorem eX8_put_382 : wX8_put B ad K 382 L r σ ↔ ∃ v, L[0]? = some v ∧ x_rfv v ∧ wX8_put B ad K 383 L (v :: r) σ := xr_aload_n dX8_put_382
theorem eX8_put_383 {v0 : Value} : wX8_put B ad K 383 L (v0 :: r) σ ↔ ((r.map fun v => v.category).sum ≤ 8 ∧ x_cl (x_v 8 (eX8_takeFromLine B ad)) [v0] σ (fun v g => wX8_put B ad K 386 L (v.toList ++ r) g)) := xr_callV [v0] r dX8_put_383 rfl
theorem eX8_put_386 : wX8_put B ad K 386 L [] σ ↔ K none σ := xr_return dX8_put_386
end
abbrev wX8_end (B : Nat) (ad : Nat → Nat) (K : xK) : Nat → List Value → List Value → xW → Prop := x_WP B none (cxX8_end B ad) cX8_end K
section
variable {B : Nat} {ad : Nat → Nat} {K : xK} {L r : List Value} {σ : xW}
theorem eX8_end_0 : wX8_end B ad K 0 L r σ ↔ ∃ v, L[0]? = some v ∧ x_rfv v ∧ wX8_end B ad K 1 L (v :: r) σ := xr_aload_n dX8_end_0
theorem eX8_end_1 {a : Nat} : wX8_end B ad K 1 L (.ref a :: r) σ ↔ ∃ fs v, σ.1 a = some (8, fs) ∧ fs[35]? = some v ∧ wX8_end B ad K 4 L (v :: r) σ := xr_getfield (t := 8) (j := 35) dX8_end_1 rfl
theorem eX8_end_4 : wX8_end B ad K 4 L r σ ↔ ∃ v, L[0]? = some v ∧ x_rfv v ∧ wX8_end B ad K 5 L (v :: r) σ := xr_aload_n dX8_end_4
theorem eX8_end_5 {a : Nat} : wX8_end B ad K 5 L (.ref a :: r) σ ↔ ∃ fs v, σ.1 a = some (8, fs) ∧ fs[34]? = some v ∧ wX8_end B ad K 8 L (v :: r) σ := xr_getfield (t := 8) (j := 34) dX8_end_5 rfl
theorem eX8_end_8 {a : Nat} {x : Int32} : wX8_end B ad K 8 L (.int x :: .ref a :: r) σ ↔ ∃ t V v, σ.1 a = some (t, V) ∧ (t = 100 ∨ t = 106) ∧ x_ix x V = some v ∧ wX8_end B ad K 9 L (v :: r) σ := xr_iaload dX8_end_8
theorem eX8_end_9 {v : Int32} : wX8_end B ad K 9 L (.int v :: r) σ ↔ (1 < L.length ∧ x_nl L 1 ∧ wX8_end B ad K 10 (L.set 1 (.int v)) r σ) := xr_istore_n dX8_end_9
theorem eX8_end_10 : wX8_end B ad K 10 L r σ ↔ wX8_end B ad K 11 L (.int 0 :: r) σ := xr_iconst dX8_end_10 (by decide)
theorem eX8_end_11 {v : Int32} : wX8_end B ad K 11 L (.int v :: r) σ ↔ (2 < L.length ∧ x_nl L 2 ∧ wX8_end B ad K 12 (L.set 2 (.int v)) r σ) := xr_istore_n dX8_end_11
theorem eX8_end_12 : wX8_end B ad K 12 L r σ ↔ ∃ v, L[0]? = some v ∧ x_rfv v ∧ wX8_end B ad K 13 L (v :: r) σ := xr_aload_n dX8_end_12
theorem eX8_end_13 {a : Nat} : wX8_end B ad K 13 L (.ref a :: r) σ ↔ ∃ fs v, σ.1 a = some (8, fs) ∧ fs[41]? = some v ∧ wX8_end B ad K 16 L (v :: r) σ := xr_getfield (t := 8) (j := 41) dX8_end_13 rfl
theorem eX8_end_16 : wX8_end B ad K 16 L r σ ↔ wX8_end B ad K 17 L (.int 3 :: r) σ := xr_iconst dX8_end_16 (by decide)
theorem eX8_end_17 : wX8_end B ad K 17 L r σ ↔ ∃ v, L[0]? = some v ∧ x_rfv v ∧ wX8_end B ad K 18 L (v :: r) σ := xr_aload_n dX8_end_17
theorem eX8_end_18 {a : Nat} : wX8_end B ad K 18 L (.ref a :: r) σ ↔ ∃ fs v, σ.1 a = some (8, fs) ∧ fs[34]? = some v ∧ wX8_end B ad K 21 L (v :: r) σ := xr_getfield (t := 8) (j := 34) dX8_end_18 rfl
theorem eX8_end_21 {x y : Int32} : wX8_end B ad K 21 L (.int y :: .int x :: r) σ ↔ wX8_end B ad K 22 L (.int (x * y) :: r) σ := xr_imul dX8_end_21
theorem eX8_end_22 : wX8_end B ad K 22 L r σ ↔ ∃ v, L[0]? = some v ∧ x_rfv v ∧ wX8_end B ad K 23 L (v :: r) σ := xr_aload_n dX8_end_22
theorem eX8_end_23 {a : Nat} : wX8_end B ad K 23 L (.ref a :: r) σ ↔ ∃ fs v, σ.1 a = some (8, fs) ∧ fs[42]? = some v ∧ wX8_end B ad K 26 L (v :: r) σ := xr_getfield (t := 8) (j := 42) dX8_end_23 rfl
theorem eX8_end_26 {a : Nat} {j : Int32} {x : Int32} : wX8_end B ad K 26 L (.int x :: .int j :: .ref a :: r) σ ↔ ∃ V, σ.1 a = some (100, V) ∧ (x_ix j V).isSome ∧ B ≤ a ∧ wX8_end B ad K 27 L r (x_up σ.1 a (100, V.set j.toInt.toNat (.int x)), σ.2) := xr_iastore dX8_end_26
theorem eX8_end_27 : wX8_end B ad K 27 L r σ ↔ ∃ v, L[0]? = some v ∧ x_rfv v ∧ wX8_end B ad K 28 L (v :: r) σ := xr_aload_n dX8_end_27
theorem eX8_end_28 {a : Nat} : wX8_end B ad K 28 L (.ref a :: r) σ ↔ ∃ fs v, σ.1 a = some (8, fs) ∧ fs[41]? = some v ∧ wX8_end B ad K 31 L (v :: r) σ := xr_getfield (t := 8) (j := 41) dX8_end_28 rfl
theorem eX8_end_31 : wX8_end B ad K 31 L r σ ↔ wX8_end B ad K 32 L (.int 3 :: r) σ := xr_iconst dX8_end_31 (by decide)
theorem eX8_end_32 : wX8_end B ad K 32 L r σ ↔ ∃ v, L[0]? = some v ∧ x_rfv v ∧ wX8_end B ad K 33 L (v :: r) σ := xr_aload_n dX8_end_32
theorem eX8_end_33 {a : Nat} : wX8_end B ad K 33 L (.ref a :: r) σ ↔ ∃ fs v, σ.1 a = some (8, fs) ∧ fs[34]? = some v ∧ wX8_end B ad K 36 L (v :: r) σ := xr_getfield (t := 8) (j := 34) dX8_end_33 rfl
theorem eX8_end_36 {x y : Int32} : wX8_end B ad K 36 L (.int y :: .int x :: r) σ ↔ wX8_end B ad K 37 L (.int (x * y) :: r) σ := xr_imul dX8_end_36
theorem eX8_end_37 : wX8_end B ad K 37 L r σ ↔ wX8_end B ad K 38 L (.int 1 :: r) σ := xr_iconst dX8_end_37 (by decide)
theorem eX8_end_38 {x y : Int32} : wX8_end B ad K 38 L (.int y :: .int x :: r) σ ↔ wX8_end B ad K 39 L (.int (x + y) :: r) σ := xr_iadd dX8_end_38
theorem eX8_end_39 : wX8_end B ad K 39 L r σ ↔ ∃ v, L[0]? = some v ∧ x_rfv v ∧ wX8_end B ad K 40 L (v :: r) σ := xr_aload_n dX8_end_39
theorem eX8_end_40 {a : Nat} : wX8_end B ad K 40 L (.ref a :: r) σ ↔ ∃ fs v, σ.1 a = some (8, fs) ∧ fs[42]? = some v ∧ wX8_end B ad K 43 L (v :: r) σ := xr_getfield (t := 8) (j := 42) dX8_end_40 rfl
theorem eX8_end_43 {a : Nat} {j : Int32} {x : Int32} : wX8_end B ad K 43 L (.int x :: .int j :: .ref a :: r) σ ↔ ∃ V, σ.1 a = some (100, V) ∧ (x_ix j V).isSome ∧ B ≤ a ∧ wX8_end B ad K 44 L r (x_up σ.1 a (100, V.set j.toInt.toNat (.int x)), σ.2) := xr_iastore dX8_end_43
theorem eX8_end_44 : wX8_end B ad K 44 L r σ ↔ wX8_end B ad K 45 L (.int 0 :: r) σ := xr_iconst dX8_end_44 (by decide)
theorem eX8_end_45 {v : Int32} : wX8_end B ad K 45 L (.int v :: r) σ ↔ (3 < L.length ∧ x_nl L 3 ∧ wX8_end B ad K 46 (L.set 3 (.int v)) r σ) := xr_istore_n dX8_end_45
theorem eX8_end_46 : wX8_end B ad K 46 L r σ ↔ wX8_end B ad K 47 L (.int 0 :: r) σ := xr_iconst dX8_end_46 (by decide)
theorem eX8_end_47 {v : Int32} : wX8_end B ad K 47 L (.int v :: r) σ ↔ (4 < L.length ∧ x_nl L 4 ∧ wX8_end B ad K 49 (L.set 4 (.int v)) r σ) := xr_istore dX8_end_47
theorem eX8_end_49 : wX8_end B ad K 49 L r σ ↔ ∃ v, L[4]? = some (.int v) ∧ wX8_end B ad K 51 L (.int v :: r) σ := xr_iload dX8_end_49
theorem eX8_end_51 : wX8_end B ad K 51 L r σ ↔ ∃ v, L[0]? = some v ∧ x_rfv v ∧ wX8_end B ad K 52 L (v :: r) σ := xr_aload_n dX8_end_51
theorem eX8_end_52 {a : Nat} : wX8_end B ad K 52 L (.ref a :: r) σ ↔ ∃ fs v, σ.1 a = some (8, fs) ∧ fs[31]? = some v ∧ wX8_end B ad K 55 L (v :: r) σ := xr_getfield (t := 8) (j := 31) dX8_end_52 rfl
theorem eX8_end_55 {x y : Int32} : wX8_end B ad K 55 L (.int y :: .int x :: r) σ ↔ (if x.toInt < y.toInt then wX8_end B ad K 58 L r σ else wX8_end B ad K 214 L r σ) := (xr_icmp_ge dX8_end_55 (by decide)).trans x_ite
theorem eX8_end_58 : wX8_end B ad K 58 L r σ ↔ ∃ v, L[0]? = some v ∧ x_rfv v ∧ wX8_end B ad K 59 L (v :: r) σ := xr_aload_n dX8_end_58
theorem eX8_end_59 {a : Nat} : wX8_end B ad K 59 L (.ref a :: r) σ ↔ ∃ fs v, σ.1 a = some (8, fs) ∧ fs[36]? = some v ∧ wX8_end B ad K 62 L (v :: r) σ := xr_getfield (t := 8) (j := 36) dX8_end_59 rfl
theorem eX8_end_62 : wX8_end B ad K 62 L r σ ↔ ∃ v, L[1]? = some (.int v) ∧ wX8_end B ad K 63 L (.int v :: r) σ := xr_iload_n dX8_end_62
theorem eX8_end_63 : wX8_end B ad K 63 L r σ ↔ ∃ v, L[4]? = some (.int v) ∧ wX8_end B ad K 65 L (.int v :: r) σ := xr_iload dX8_end_63
theorem eX8_end_65 {x y : Int32} : wX8_end B ad K 65 L (.int y :: .int x :: r) σ ↔ wX8_end B ad K 66 L (.int (x + y) :: r) σ := xr_iadd dX8_end_65
theorem eX8_end_66 : wX8_end B ad K 66 L r σ ↔ ∃ v, L[0]? = some v ∧ x_rfv v ∧ wX8_end B ad K 67 L (v :: r) σ := xr_aload_n dX8_end_66
theorem eX8_end_67 {a : Nat} : wX8_end B ad K 67 L (.ref a :: r) σ ↔ ∃ fs v, σ.1 a = some (8, fs) ∧ fs[19]? = some v ∧ wX8_end B ad K 70 L (v :: r) σ := xr_getfield (t := 8) (j := 19) dX8_end_67 rfl
theorem eX8_end_70 : wX8_end B ad K 70 L r σ ↔ ∃ v, L[4]? = some (.int v) ∧ wX8_end B ad K 72 L (.int v :: r) σ := xr_iload dX8_end_70
theorem eX8_end_72 {a : Nat} {x : Int32} : wX8_end B ad K 72 L (.int x :: .ref a :: r) σ ↔ ∃ t V v, σ.1 a = some (t, V) ∧ (t = 100 ∨ t = 106) ∧ x_ix x V = some v ∧ wX8_end B ad K 73 L (v :: r) σ := xr_iaload dX8_end_72
theorem eX8_end_73 {a : Nat} {j : Int32} {x : Int32} : wX8_end B ad K 73 L (.int x :: .int j :: .ref a :: r) σ ↔ ∃ V, σ.1 a = some (100, V) ∧ (x_ix j V).isSome ∧ B ≤ a ∧ wX8_end B ad K 74 L r (x_up σ.1 a (100, V.set j.toInt.toNat (.int x)), σ.2) := xr_iastore dX8_end_73
theorem eX8_end_74 : wX8_end B ad K 74 L r σ ↔ ∃ v, L[0]? = some v ∧ x_rfv v ∧ wX8_end B ad K 75 L (v :: r) σ := xr_aload_n dX8_end_74
theorem eX8_end_75 {a : Nat} : wX8_end B ad K 75 L (.ref a :: r) σ ↔ ∃ fs v, σ.1 a = some (8, fs) ∧ fs[37]? = some v ∧ wX8_end B ad K 78 L (v :: r) σ := xr_getfield (t := 8) (j := 37) dX8_end_75 rfl
theorem eX8_end_78 : wX8_end B ad K 78 L r σ ↔ ∃ v, L[1]? = some (.int v) ∧ wX8_end B ad K 79 L (.int v :: r) σ := xr_iload_n dX8_end_78
theorem eX8_end_79 : wX8_end B ad K 79 L r σ ↔ ∃ v, L[4]? = some (.int v) ∧ wX8_end B ad K 81 L (.int v :: r) σ := xr_iload dX8_end_79
theorem eX8_end_81 {x y : Int32} : wX8_end B ad K 81 L (.int y :: .int x :: r) σ ↔ wX8_end B ad K 82 L (.int (x + y) :: r) σ := xr_iadd dX8_end_81
theorem eX8_end_82 : wX8_end B ad K 82 L r σ ↔ ∃ v, L[0]? = some v ∧ x_rfv v ∧ wX8_end B ad K 83 L (v :: r) σ := xr_aload_n dX8_end_82
theorem eX8_end_83 {a : Nat} : wX8_end B ad K 83 L (.ref a :: r) σ ↔ ∃ fs v, σ.1 a = some (8, fs) ∧ fs[21]? = some v ∧ wX8_end B ad K 86 L (v :: r) σ := xr_getfield (t := 8) (j := 21) dX8_end_83 rfl
theorem eX8_end_86 : wX8_end B ad K 86 L r σ ↔ ∃ v, L[4]? = some (.int v) ∧ wX8_end B ad K 88 L (.int v :: r) σ := xr_iload dX8_end_86
theorem eX8_end_88 {a : Nat} {x : Int32} : wX8_end B ad K 88 L (.int x :: .ref a :: r) σ ↔ ∃ t V v, σ.1 a = some (t, V) ∧ (t = 100 ∨ t = 106) ∧ x_ix x V = some v ∧ wX8_end B ad K 89 L (v :: r) σ := xr_iaload dX8_end_88
theorem eX8_end_89 {a : Nat} {j : Int32} {x : Int32} : wX8_end B ad K 89 L (.int x :: .int j :: .ref a :: r) σ ↔ ∃ V, σ.1 a = some (100, V) ∧ (x_ix j V).isSome ∧ B ≤ a ∧ wX8_end B ad K 90 L r (x_up σ.1 a (100, V.set j.toInt.toNat (.int x)), σ.2) := xr_iastore dX8_end_89
theorem eX8_end_90 : wX8_end B ad K 90 L r σ ↔ ∃ v, L[0]? = some v ∧ x_rfv v ∧ wX8_end B ad K 91 L (v :: r) σ := xr_aload_n dX8_end_90
theorem eX8_end_91 {a : Nat} : wX8_end B ad K 91 L (.ref a :: r) σ ↔ ∃ fs v, σ.1 a = some (8, fs) ∧ fs[22]? = some v ∧ wX8_end B ad K 94 L (v :: r) σ := xr_getfield (t := 8) (j := 22) dX8_end_91 rfl
theorem eX8_end_94 : wX8_end B ad K 94 L r σ ↔ ∃ v, L[4]? = some (.int v) ∧ wX8_end B ad K 96 L (.int v :: r) σ := xr_iload dX8_end_94
theorem eX8_end_96 {a : Nat} {x : Int32} : wX8_end B ad K 96 L (.int x :: .ref a :: r) σ ↔ ∃ V v, σ.1 a = some (102, V) ∧ x_ix x V = some v ∧ wX8_end B ad K 97 L (v :: r) σ := xr_baload dX8_end_96
theorem eX8_end_97 {x : Int32} : wX8_end B ad K 97 L (.int x :: r) σ ↔ (if x = 0 then wX8_end B ad K 137 L r σ else wX8_end B ad K 100 L r σ) := (xr_if_eq dX8_end_97 (by decide)).trans x_ite
theorem eX8_end_100 : wX8_end B ad K 100 L r σ ↔ ∃ v, L[0]? = some v ∧ x_rfv v ∧ wX8_end B ad K 101 L (v :: r) σ := xr_aload_n dX8_end_100
theorem eX8_end_101 {a : Nat} : wX8_end B ad K 101 L (.ref a :: r) σ ↔ ∃ fs v, σ.1 a = some (8, fs) ∧ fs[43]? = some v ∧ wX8_end B ad K 104 L (v :: r) σ := xr_getfield (t := 8) (j := 43) dX8_end_101 rfl
theorem eX8_end_104 : wX8_end B ad K 104 L r σ ↔ ∃ v, L[2]? = some (.int v) ∧ wX8_end B ad K 105 L (.int v :: r) σ := xr_iload_n dX8_end_104
theorem eX8_end_105 : wX8_end B ad K 105 L r σ ↔ ∃ v, L[0]? = some v ∧ x_rfv v ∧ wX8_end B ad K 106 L (v :: r) σ := xr_aload_n dX8_end_105
theorem eX8_end_106 {a : Nat} : wX8_end B ad K 106 L (.ref a :: r) σ ↔ ∃ fs v, σ.1 a = some (8, fs) ∧ fs[19]? = some v ∧ wX8_end B ad K 109 L (v :: r) σ := xr_getfield (t := 8) (j := 19) dX8_end_106 rfl
theorem eX8_end_109 : wX8_end B ad K 109 L r σ ↔ ∃ v, L[4]? = some (.int v) ∧ wX8_end B ad K 111 L (.int v :: r) σ := xr_iload dX8_end_109
theorem eX8_end_111 {a : Nat} {x : Int32} : wX8_end B ad K 111 L (.int x :: .ref a :: r) σ ↔ ∃ t V v, σ.1 a = some (t, V) ∧ (t = 100 ∨ t = 106) ∧ x_ix x V = some v ∧ wX8_end B ad K 112 L (v :: r) σ := xr_iaload dX8_end_111
theorem eX8_end_112 {a : Nat} {j : Int32} {x : Int32} : wX8_end B ad K 112 L (.int x :: .int j :: .ref a :: r) σ ↔ ∃ V, σ.1 a = some (100, V) ∧ (x_ix j V).isSome ∧ B ≤ a ∧ wX8_end B ad K 113 L r (x_up σ.1 a (100, V.set j.toInt.toNat (.int x)), σ.2) := xr_iastore dX8_end_112
theorem eX8_end_113 : wX8_end B ad K 113 L r σ ↔ ∃ v, L[0]? = some v ∧ x_rfv v ∧ wX8_end B ad K 114 L (v :: r) σ := xr_aload_n dX8_end_113
theorem eX8_end_114 {a : Nat} : wX8_end B ad K 114 L (.ref a :: r) σ ↔ ∃ fs v, σ.1 a = some (8, fs) ∧ fs[44]? = some v ∧ wX8_end B ad K 117 L (v :: r) σ := xr_getfield (t := 8) (j := 44) dX8_end_114 rfl
theorem eX8_end_117 : wX8_end B ad K 117 L r σ ↔ ∃ v, L[2]? = some (.int v) ∧ wX8_end B ad K 118 L (.int v :: r) σ := xr_iload_n dX8_end_117
theorem eX8_end_118 : wX8_end B ad K 118 L r σ ↔ ∃ v, L[0]? = some v ∧ x_rfv v ∧ wX8_end B ad K 119 L (v :: r) σ := xr_aload_n dX8_end_118
theorem eX8_end_119 {a : Nat} : wX8_end B ad K 119 L (.ref a :: r) σ ↔ ∃ fs v, σ.1 a = some (8, fs) ∧ fs[20]? = some v ∧ wX8_end B ad K 122 L (v :: r) σ := xr_getfield (t := 8) (j := 20) dX8_end_119 rfl
theorem eX8_end_122 : wX8_end B ad K 122 L r σ ↔ ∃ v, L[4]? = some (.int v) ∧ wX8_end B ad K 124 L (.int v :: r) σ := xr_iload dX8_end_122
theorem eX8_end_124 {a : Nat} {x : Int32} : wX8_end B ad K 124 L (.int x :: .ref a :: r) σ ↔ ∃ t V v, σ.1 a = some (t, V) ∧ (t = 100 ∨ t = 106) ∧ x_ix x V = some v ∧ wX8_end B ad K 125 L (v :: r) σ := xr_iaload dX8_end_124
theorem eX8_end_125 : wX8_end B ad K 125 L r σ ↔ ∃ v, L[0]? = some v ∧ x_rfv v ∧ wX8_end B ad K 126 L (v :: r) σ := xr_aload_n dX8_end_125
theorem eX8_end_126 {a : Nat} : wX8_end B ad K 126 L (.ref a :: r) σ ↔ ∃ fs v, σ.1 a = some (8, fs) ∧ fs[21]? = some v ∧ wX8_end B ad K 129 L (v :: r) σ := xr_getfield (t := 8) (j := 21) dX8_end_126 rfl
theorem eX8_end_129 : wX8_end B ad K 129 L r σ ↔ ∃ v, L[4]? = some (.int v) ∧ wX8_end B ad K 131 L (.int v :: r) σ := xr_iload dX8_end_129
theorem eX8_end_131 {a : Nat} {x : Int32} : wX8_end B ad K 131 L (.int x :: .ref a :: r) σ ↔ ∃ t V v, σ.1 a = some (t, V) ∧ (t = 100 ∨ t = 106) ∧ x_ix x V = some v ∧ wX8_end B ad K 132 L (v :: r) σ := xr_iaload dX8_end_131
theorem eX8_end_132 {x y : Int32} : wX8_end B ad K 132 L (.int y :: .int x :: r) σ ↔ wX8_end B ad K 133 L (.int (x - y) :: r) σ := xr_isub dX8_end_132
theorem eX8_end_133 {a : Nat} {j : Int32} {x : Int32} : wX8_end B ad K 133 L (.int x :: .int j :: .ref a :: r) σ ↔ ∃ V, σ.1 a = some (100, V) ∧ (x_ix j V).isSome ∧ B ≤ a ∧ wX8_end B ad K 134 L r (x_up σ.1 a (100, V.set j.toInt.toNat (.int x)), σ.2) := xr_iastore dX8_end_133
theorem eX8_end_134 : wX8_end B ad K 134 L r σ ↔ ∃ v, L[2]? = some (.int v) ∧ x_nl L 2 ∧ wX8_end B ad K 137 (L.set 2 (.int (v + 1))) r σ := xr_iinc dX8_end_134 (by decide)
theorem eX8_end_137 : wX8_end B ad K 137 L r σ ↔ ∃ v, L[0]? = some v ∧ x_rfv v ∧ wX8_end B ad K 138 L (v :: r) σ := xr_aload_n dX8_end_137
theorem eX8_end_138 {a : Nat} : wX8_end B ad K 138 L (.ref a :: r) σ ↔ ∃ fs v, σ.1 a = some (8, fs) ∧ fs[2]? = some v ∧ wX8_end B ad K 141 L (v :: r) σ := xr_getfield (t := 8) (j := 2) dX8_end_138 rfl
theorem eX8_end_141 : wX8_end B ad K 141 L r σ ↔ ∃ v, L[0]? = some v ∧ x_rfv v ∧ wX8_end B ad K 142 L (v :: r) σ := xr_aload_n dX8_end_141
theorem eX8_end_142 {a : Nat} : wX8_end B ad K 142 L (.ref a :: r) σ ↔ ∃ fs v, σ.1 a = some (8, fs) ∧ fs[19]? = some v ∧ wX8_end B ad K 145 L (v :: r) σ := xr_getfield (t := 8) (j := 19) dX8_end_142 rfl
theorem eX8_end_145 : wX8_end B ad K 145 L r σ ↔ ∃ v, L[4]? = some (.int v) ∧ wX8_end B ad K 147 L (.int v :: r) σ := xr_iload dX8_end_145
theorem eX8_end_147 {a : Nat} {x : Int32} : wX8_end B ad K 147 L (.int x :: .ref a :: r) σ ↔ ∃ t V v, σ.1 a = some (t, V) ∧ (t = 100 ∨ t = 106) ∧ x_ix x V = some v ∧ wX8_end B ad K 148 L (v :: r) σ := xr_iaload dX8_end_147
theorem eX8_end_148 {a : Nat} {x : Int32} : wX8_end B ad K 148 L (.int x :: .ref a :: r) σ ↔ ∃ t V v, σ.1 a = some (t, V) ∧ (t = 100 ∨ t = 106) ∧ x_ix x V = some v ∧ wX8_end B ad K 149 L (v :: r) σ := xr_iaload dX8_end_148
theorem eX8_end_149 : wX8_end B ad K 149 L r σ ↔ wX8_end B ad K 150 L (.int 5 :: r) σ := xr_iconst dX8_end_149 (by decide)
theorem eX8_end_150 {x y : Int32} : wX8_end B ad K 150 L (.int y :: .int x :: r) σ ↔ (if x = y then wX8_end B ad K 153 L r σ else wX8_end B ad K 208 L r σ) := (xr_icmp_ne dX8_end_150 (by decide)).trans x_ite
theorem eX8_end_153 : wX8_end B ad K 153 L r σ ↔ ∃ v, L[0]? = some v ∧ x_rfv v ∧ wX8_end B ad K 154 L (v :: r) σ := xr_aload_n dX8_end_153
theorem eX8_end_154 : wX8_end B ad K 154 L r σ ↔ ∃ v, L[0]? = some v ∧ x_rfv v ∧ wX8_end B ad K 155 L (v :: r) σ := xr_aload_n dX8_end_154
theorem eX8_end_155 {a : Nat} : wX8_end B ad K 155 L (.ref a :: r) σ ↔ ∃ fs v, σ.1 a = some (8, fs) ∧ fs[3]? = some v ∧ wX8_end B ad K 158 L (v :: r) σ := xr_getfield (t := 8) (j := 3) dX8_end_155 rfl
theorem eX8_end_158 : wX8_end B ad K 158 L r σ ↔ ∃ v, L[0]? = some v ∧ x_rfv v ∧ wX8_end B ad K 159 L (v :: r) σ := xr_aload_n dX8_end_158
theorem eX8_end_159 {a : Nat} : wX8_end B ad K 159 L (.ref a :: r) σ ↔ ∃ fs v, σ.1 a = some (8, fs) ∧ fs[19]? = some v ∧ wX8_end B ad K 162 L (v :: r) σ := xr_getfield (t := 8) (j := 19) dX8_end_159 rfl
theorem eX8_end_162 : wX8_end B ad K 162 L r σ ↔ ∃ v, L[4]? = some (.int v) ∧ wX8_end B ad K 164 L (.int v :: r) σ := xr_iload dX8_end_162
theorem eX8_end_164 {a : Nat} {x : Int32} : wX8_end B ad K 164 L (.int x :: .ref a :: r) σ ↔ ∃ t V v, σ.1 a = some (t, V) ∧ (t = 100 ∨ t = 106) ∧ x_ix x V = some v ∧ wX8_end B ad K 165 L (v :: r) σ := xr_iaload dX8_end_164
theorem eX8_end_165 {a : Nat} {x : Int32} : wX8_end B ad K 165 L (.int x :: .ref a :: r) σ ↔ ∃ t V v, σ.1 a = some (t, V) ∧ (t = 100 ∨ t = 106) ∧ x_ix x V = some v ∧ wX8_end B ad K 166 L (v :: r) σ := xr_iaload dX8_end_165
theorem eX8_end_166 {x : Int32} {a : Nat} : wX8_end B ad K 166 L (.int x :: .ref a :: r) σ ↔ ∃ fs, σ.1 a = some (8, fs) ∧ 42 < fs.length ∧ B ≤ a ∧ wX8_end B ad K 169 L r (x_up σ.1 a (8, fs.set 42 (.int x)), σ.2) := xr_put_i (t := 8) (j := 42) dX8_end_166 rfl (by decide)
theorem eX8_end_169 : wX8_end B ad K 169 L r σ ↔ ∃ v, L[0]? = some v ∧ x_rfv v ∧ wX8_end B ad K 170 L (v :: r) σ := xr_aload_n dX8_end_169
theorem eX8_end_170 {a : Nat} : wX8_end B ad K 170 L (.ref a :: r) σ ↔ ∃ fs v, σ.1 a = some (8, fs) ∧ fs[41]? = some v ∧ wX8_end B ad K 173 L (v :: r) σ := xr_getfield (t := 8) (j := 41) dX8_end_170 rfl
theorem eX8_end_173 : wX8_end B ad K 173 L r σ ↔ wX8_end B ad K 174 L (.int 3 :: r) σ := xr_iconst dX8_end_173 (by decide)
theorem eX8_end_174 : wX8_end B ad K 174 L r σ ↔ ∃ v, L[0]? = some v ∧ x_rfv v ∧ wX8_end B ad K 175 L (v :: r) σ := xr_aload_n dX8_end_174
theorem eX8_end_175 {a : Nat} : wX8_end B ad K 175 L (.ref a :: r) σ ↔ ∃ fs v, σ.1 a = some (8, fs) ∧ fs[34]? = some v ∧ wX8_end B ad K 178 L (v :: r) σ := xr_getfield (t := 8) (j := 34) dX8_end_175 rfl
theorem eX8_end_178 {x y : Int32} : wX8_end B ad K 178 L (.int y :: .int x :: r) σ ↔ wX8_end B ad K 179 L (.int (x * y) :: r) σ := xr_imul dX8_end_178
theorem eX8_end_179 : wX8_end B ad K 179 L r σ ↔ wX8_end B ad K 180 L (.int 1 :: r) σ := xr_iconst dX8_end_179 (by decide)
theorem eX8_end_180 {x y : Int32} : wX8_end B ad K 180 L (.int y :: .int x :: r) σ ↔ wX8_end B ad K 181 L (.int (x + y) :: r) σ := xr_iadd dX8_end_180
theorem eX8_end_181 : wX8_end B ad K 181 L r σ ↔ ∃ v, L[3]? = some (.int v) ∧ wX8_end B ad K 182 L (.int v :: r) σ := xr_iload_n dX8_end_181
theorem eX8_end_182 {x : Int32} : wX8_end B ad K 182 L (.int x :: r) σ ↔ (if x = 0 then wX8_end B ad K 201 L r σ else wX8_end B ad K 185 L r σ) := (xr_if_eq dX8_end_182 (by decide)).trans x_ite
theorem eX8_end_185 : wX8_end B ad K 185 L r σ ↔ ∃ v, L[0]? = some v ∧ x_rfv v ∧ wX8_end B ad K 186 L (v :: r) σ := xr_aload_n dX8_end_185
theorem eX8_end_186 {a : Nat} : wX8_end B ad K 186 L (.ref a :: r) σ ↔ ∃ fs v, σ.1 a = some (8, fs) ∧ fs[41]? = some v ∧ wX8_end B ad K 189 L (v :: r) σ := xr_getfield (t := 8) (j := 41) dX8_end_186 rfl
theorem eX8_end_189 : wX8_end B ad K 189 L r σ ↔ wX8_end B ad K 190 L (.int 3 :: r) σ := xr_iconst dX8_end_189 (by decide)
theorem eX8_end_190 : wX8_end B ad K 190 L r σ ↔ ∃ v, L[0]? = some v ∧ x_rfv v ∧ wX8_end B ad K 191 L (v :: r) σ := xr_aload_n dX8_end_190
theorem eX8_end_191 {a : Nat} : wX8_end B ad K 191 L (.ref a :: r) σ ↔ ∃ fs v, σ.1 a = some (8, fs) ∧ fs[34]? = some v ∧ wX8_end B ad K 194 L (v :: r) σ := xr_getfield (t := 8) (j := 34) dX8_end_191 rfl
theorem eX8_end_194 {x y : Int32} : wX8_end B ad K 194 L (.int y :: .int x :: r) σ ↔ wX8_end B ad K 195 L (.int (x * y) :: r) σ := xr_imul dX8_end_194
theorem eX8_end_195 : wX8_end B ad K 195 L r σ ↔ wX8_end B ad K 196 L (.int 1 :: r) σ := xr_iconst dX8_end_195 (by decide)
theorem eX8_end_196 {x y : Int32} : wX8_end B ad K 196 L (.int y :: .int x :: r) σ ↔ wX8_end B ad K 197 L (.int (x + y) :: r) σ := xr_iadd dX8_end_196
theorem eX8_end_197 {a : Nat} {x : Int32} : wX8_end B ad K 197 L (.int x :: .ref a :: r) σ ↔ ∃ t V v, σ.1 a = some (t, V) ∧ (t = 100 ∨ t = 106) ∧ x_ix x V = some v ∧ wX8_end B ad K 198 L (v :: r) σ := xr_iaload dX8_end_197
theorem eX8_end_198 : wX8_end B ad K 198 L r σ ↔ wX8_end B ad K 205 L r σ := xr_goto dX8_end_198 (by decide)
theorem eX8_end_201 : wX8_end B ad K 201 L r σ ↔ ∃ v, L[0]? = some v ∧ x_rfv v ∧ wX8_end B ad K 202 L (v :: r) σ := xr_aload_n dX8_end_201
theorem eX8_end_202 {a : Nat} : wX8_end B ad K 202 L (.ref a :: r) σ ↔ ∃ fs v, σ.1 a = some (8, fs) ∧ fs[42]? = some v ∧ wX8_end B ad K 205 L (v :: r) σ := xr_getfield (t := 8) (j := 42) dX8_end_202 rfl
theorem eX8_end_205 {a : Nat} {j : Int32} {x : Int32} : wX8_end B ad K 205 L (.int x :: .int j :: .ref a :: r) σ ↔ ∃ V, σ.1 a = some (100, V) ∧ (x_ix j V).isSome ∧ B ≤ a ∧ wX8_end B ad K 206 L r (x_up σ.1 a (100, V.set j.toInt.toNat (.int x)), σ.2) := xr_iastore dX8_end_205
theorem eX8_end_206 : wX8_end B ad K 206 L r σ ↔ wX8_end B ad K 207 L (.int 1 :: r) σ := xr_iconst dX8_end_206 (by decide)
theorem eX8_end_207 {v : Int32} : wX8_end B ad K 207 L (.int v :: r) σ ↔ (3 < L.length ∧ x_nl L 3 ∧ wX8_end B ad K 208 (L.set 3 (.int v)) r σ) := xr_istore_n dX8_end_207
theorem eX8_end_208 : wX8_end B ad K 208 L r σ ↔ ∃ v, L[4]? = some (.int v) ∧ x_nl L 4 ∧ wX8_end B ad K 211 (L.set 4 (.int (v + 1))) r σ := xr_iinc dX8_end_208 (by decide)
theorem eX8_end_211 : wX8_end B ad K 211 L r σ ↔ wX8_end B ad K 49 L r σ := xr_goto dX8_end_211 (by decide)
theorem eX8_end_214 : wX8_end B ad K 214 L r σ ↔ ∃ v, L[0]? = some v ∧ x_rfv v ∧ wX8_end B ad K 215 L (v :: r) σ := xr_aload_n dX8_end_214
theorem eX8_end_215 {a : Nat} : wX8_end B ad K 215 L (.ref a :: r) σ ↔ ∃ fs v, σ.1 a = some (8, fs) ∧ fs[41]? = some v ∧ wX8_end B ad K 218 L (v :: r) σ := xr_getfield (t := 8) (j := 41) dX8_end_215 rfl
theorem eX8_end_218 : wX8_end B ad K 218 L r σ ↔ wX8_end B ad K 219 L (.int 3 :: r) σ := xr_iconst dX8_end_218 (by decide)
theorem eX8_end_219 : wX8_end B ad K 219 L r σ ↔ ∃ v, L[0]? = some v ∧ x_rfv v ∧ wX8_end B ad K 220 L (v :: r) σ := xr_aload_n dX8_end_219
theorem eX8_end_220 {a : Nat} : wX8_end B ad K 220 L (.ref a :: r) σ ↔ ∃ fs v, σ.1 a = some (8, fs) ∧ fs[34]? = some v ∧ wX8_end B ad K 223 L (v :: r) σ := xr_getfield (t := 8) (j := 34) dX8_end_220 rfl
theorem eX8_end_223 {x y : Int32} : wX8_end B ad K 223 L (.int y :: .int x :: r) σ ↔ wX8_end B ad K 224 L (.int (x * y) :: r) σ := xr_imul dX8_end_223
theorem eX8_end_224 : wX8_end B ad K 224 L r σ ↔ wX8_end B ad K 225 L (.int 2 :: r) σ := xr_iconst dX8_end_224 (by decide)
theorem eX8_end_225 {x y : Int32} : wX8_end B ad K 225 L (.int y :: .int x :: r) σ ↔ wX8_end B ad K 226 L (.int (x + y) :: r) σ := xr_iadd dX8_end_225
theorem eX8_end_226 : wX8_end B ad K 226 L r σ ↔ ∃ v, L[0]? = some v ∧ x_rfv v ∧ wX8_end B ad K 227 L (v :: r) σ := xr_aload_n dX8_end_226
theorem eX8_end_227 {a : Nat} : wX8_end B ad K 227 L (.ref a :: r) σ ↔ ∃ fs v, σ.1 a = some (8, fs) ∧ fs[42]? = some v ∧ wX8_end B ad K 230 L (v :: r) σ := xr_getfield (t := 8) (j := 42) dX8_end_227 rfl
theorem eX8_end_230 {a : Nat} {j : Int32} {x : Int32} : wX8_end B ad K 230 L (.int x :: .int j :: .ref a :: r) σ ↔ ∃ V, σ.1 a = some (100, V) ∧ (x_ix j V).isSome ∧ B ≤ a ∧ wX8_end B ad K 231 L r (x_up σ.1 a (100, V.set j.toInt.toNat (.int x)), σ.2) := xr_iastore dX8_end_230
theorem eX8_end_231 : wX8_end B ad K 231 L r σ ↔ ∃ v, L[0]? = some v ∧ x_rfv v ∧ wX8_end B ad K 232 L (v :: r) σ := xr_aload_n dX8_end_231
theorem eX8_end_232 {a : Nat} : wX8_end B ad K 232 L (.ref a :: r) σ ↔ ∃ fs v, σ.1 a = some (8, fs) ∧ fs[35]? = some v ∧ wX8_end B ad K 235 L (v :: r) σ := xr_getfield (t := 8) (j := 35) dX8_end_232 rfl
theorem eX8_end_235 : wX8_end B ad K 235 L r σ ↔ ∃ v, L[0]? = some v ∧ x_rfv v ∧ wX8_end B ad K 236 L (v :: r) σ := xr_aload_n dX8_end_235
theorem eX8_end_236 {a : Nat} : wX8_end B ad K 236 L (.ref a :: r) σ ↔ ∃ fs v, σ.1 a = some (8, fs) ∧ fs[34]? = some v ∧ wX8_end B ad K 239 L (v :: r) σ := xr_getfield (t := 8) (j := 34) dX8_end_236 rfl
theorem eX8_end_239 : wX8_end B ad K 239 L r σ ↔ wX8_end B ad K 240 L (.int 1 :: r) σ := xr_iconst dX8_end_239 (by decide)
theorem eX8_end_240 {x y : Int32} : wX8_end B ad K 240 L (.int y :: .int x :: r) σ ↔ wX8_end B ad K 241 L (.int (x + y) :: r) σ := xr_iadd dX8_end_240
theorem eX8_end_241 : wX8_end B ad K 241 L r σ ↔ ∃ v, L[1]? = some (.int v) ∧ wX8_end B ad K 242 L (.int v :: r) σ := xr_iload_n dX8_end_241
theorem eX8_end_242 : wX8_end B ad K 242 L r σ ↔ ∃ v, L[0]? = some v ∧ x_rfv v ∧ wX8_end B ad K 243 L (v :: r) σ := xr_aload_n dX8_end_242
theorem eX8_end_243 {a : Nat} : wX8_end B ad K 243 L (.ref a :: r) σ ↔ ∃ fs v, σ.1 a = some (8, fs) ∧ fs[31]? = some v ∧ wX8_end B ad K 246 L (v :: r) σ := xr_getfield (t := 8) (j := 31) dX8_end_243 rfl
theorem eX8_end_246 {x y : Int32} : wX8_end B ad K 246 L (.int y :: .int x :: r) σ ↔ wX8_end B ad K 247 L (.int (x + y) :: r) σ := xr_iadd dX8_end_246
theorem eX8_end_247 {a : Nat} {j : Int32} {x : Int32} : wX8_end B ad K 247 L (.int x :: .int j :: .ref a :: r) σ ↔ ∃ V, σ.1 a = some (100, V) ∧ (x_ix j V).isSome ∧ B ≤ a ∧ wX8_end B ad K 248 L r (x_up σ.1 a (100, V.set j.toInt.toNat (.int x)), σ.2) := xr_iastore dX8_end_247
theorem eX8_end_248 : wX8_end B ad K 248 L r σ ↔ wX8_end B ad K 249 L (.int 0 :: r) σ := xr_iconst dX8_end_248 (by decide)
theorem eX8_end_249 {v : Int32} : wX8_end B ad K 249 L (.int v :: r) σ ↔ (4 < L.length ∧ x_nl L 4 ∧ wX8_end B ad K 251 (L.set 4 (.int v)) r σ) := xr_istore dX8_end_249
theorem eX8_end_251 : wX8_end B ad K 251 L r σ ↔ ∃ v, L[4]? = some (.int v) ∧ wX8_end B ad K 253 L (.int v :: r) σ := xr_iload dX8_end_251
theorem eX8_end_253 : wX8_end B ad K 253 L r σ ↔ wX8_end B ad K 255 L (.int 12 :: r) σ := xr_bipush dX8_end_253 (by decide)
theorem eX8_end_255 {x y : Int32} : wX8_end B ad K 255 L (.int y :: .int x :: r) σ ↔ (if x.toInt < y.toInt then wX8_end B ad K 258 L r σ else wX8_end B ad K 289 L r σ) := (xr_icmp_ge dX8_end_255 (by decide)).trans x_ite
theorem eX8_end_258 : wX8_end B ad K 258 L r σ ↔ ∃ v, L[0]? = some v ∧ x_rfv v ∧ wX8_end B ad K 259 L (v :: r) σ := xr_aload_n dX8_end_258
theorem eX8_end_259 {a : Nat} : wX8_end B ad K 259 L (.ref a :: r) σ ↔ ∃ fs v, σ.1 a = some (8, fs) ∧ fs[38]? = some v ∧ wX8_end B ad K 262 L (v :: r) σ := xr_getfield (t := 8) (j := 38) dX8_end_259 rfl
theorem eX8_end_262 : wX8_end B ad K 262 L r σ ↔ wX8_end B ad K 264 L (.int 12 :: r) σ := xr_bipush dX8_end_262 (by decide)
theorem eX8_end_264 : wX8_end B ad K 264 L r σ ↔ ∃ v, L[0]? = some v ∧ x_rfv v ∧ wX8_end B ad K 265 L (v :: r) σ := xr_aload_n dX8_end_264
theorem eX8_end_265 {a : Nat} : wX8_end B ad K 265 L (.ref a :: r) σ ↔ ∃ fs v, σ.1 a = some (8, fs) ∧ fs[34]? = some v ∧ wX8_end B ad K 268 L (v :: r) σ := xr_getfield (t := 8) (j := 34) dX8_end_265 rfl
theorem eX8_end_268 {x y : Int32} : wX8_end B ad K 268 L (.int y :: .int x :: r) σ ↔ wX8_end B ad K 269 L (.int (x * y) :: r) σ := xr_imul dX8_end_268
theorem eX8_end_269 : wX8_end B ad K 269 L r σ ↔ ∃ v, L[4]? = some (.int v) ∧ wX8_end B ad K 271 L (.int v :: r) σ := xr_iload dX8_end_269
theorem eX8_end_271 {x y : Int32} : wX8_end B ad K 271 L (.int y :: .int x :: r) σ ↔ wX8_end B ad K 272 L (.int (x + y) :: r) σ := xr_iadd dX8_end_271
theorem eX8_end_272 : wX8_end B ad K 272 L r σ ↔ ∃ v, L[0]? = some v ∧ x_rfv v ∧ wX8_end B ad K 273 L (v :: r) σ := xr_aload_n dX8_end_272
theorem eX8_end_273 {a : Nat} : wX8_end B ad K 273 L (.ref a :: r) σ ↔ ∃ fs v, σ.1 a = some (8, fs) ∧ fs[24]? = some v ∧ wX8_end B ad K 276 L (v :: r) σ := xr_getfield (t := 8) (j := 24) dX8_end_273 rfl
theorem eX8_end_276 : wX8_end B ad K 276 L r σ ↔ wX8_end B ad K 278 L (.int 12 :: r) σ := xr_bipush dX8_end_276 (by decide)
theorem eX8_end_278 : wX8_end B ad K 278 L r σ ↔ ∃ v, L[4]? = some (.int v) ∧ wX8_end B ad K 280 L (.int v :: r) σ := xr_iload dX8_end_278
theorem eX8_end_280 {x y : Int32} : wX8_end B ad K 280 L (.int y :: .int x :: r) σ ↔ wX8_end B ad K 281 L (.int (x + y) :: r) σ := xr_iadd dX8_end_280
theorem eX8_end_281 {a : Nat} {x : Int32} : wX8_end B ad K 281 L (.int x :: .ref a :: r) σ ↔ ∃ V v, σ.1 a = some (101, V) ∧ x_ix x V = some v ∧ wX8_end B ad K 282 L (v :: r) σ := xr_laload dX8_end_281
theorem eX8_end_282 {a : Nat} {j : Int32} {x : Int64} : wX8_end B ad K 282 L (.long x :: .int j :: .ref a :: r) σ ↔ ∃ V, σ.1 a = some (101, V) ∧ (x_ix j V).isSome ∧ B ≤ a ∧ wX8_end B ad K 283 L r (x_up σ.1 a (101, V.set j.toInt.toNat (.long x)), σ.2) := xr_lastore dX8_end_282
theorem eX8_end_283 : wX8_end B ad K 283 L r σ ↔ ∃ v, L[4]? = some (.int v) ∧ x_nl L 4 ∧ wX8_end B ad K 286 (L.set 4 (.int (v + 1))) r σ := xr_iinc dX8_end_283 (by decide)
theorem eX8_end_286 : wX8_end B ad K 286 L r σ ↔ wX8_end B ad K 251 L r σ := xr_goto dX8_end_286 (by decide)
theorem eX8_end_289 : wX8_end B ad K 289 L r σ ↔ ∃ v, L[0]? = some v ∧ x_rfv v ∧ wX8_end B ad K 290 L (v :: r) σ := xr_aload_n dX8_end_289
theorem eX8_end_290 {a : Nat} : wX8_end B ad K 290 L (.ref a :: r) σ ↔ ∃ fs v, σ.1 a = some (8, fs) ∧ fs[39]? = some v ∧ wX8_end B ad K 293 L (v :: r) σ := xr_getfield (t := 8) (j := 39) dX8_end_290 rfl
theorem eX8_end_293 : wX8_end B ad K 293 L r σ ↔ ∃ v, L[0]? = some v ∧ x_rfv v ∧ wX8_end B ad K 294 L (v :: r) σ := xr_aload_n dX8_end_293
theorem eX8_end_294 {a : Nat} : wX8_end B ad K 294 L (.ref a :: r) σ ↔ ∃ fs v, σ.1 a = some (8, fs) ∧ fs[34]? = some v ∧ wX8_end B ad K 297 L (v :: r) σ := xr_getfield (t := 8) (j := 34) dX8_end_294 rfl
theorem eX8_end_297 : wX8_end B ad K 297 L r σ ↔ ∃ v, L[0]? = some v ∧ x_rfv v ∧ wX8_end B ad K 298 L (v :: r) σ := xr_aload_n dX8_end_297
theorem eX8_end_298 {a : Nat} : wX8_end B ad K 298 L (.ref a :: r) σ ↔ ∃ fs v, σ.1 a = some (8, fs) ∧ fs[32]? = some v ∧ wX8_end B ad K 301 L (v :: r) σ := xr_getfield (t := 8) (j := 32) dX8_end_298 rfl
theorem eX8_end_301 {a : Nat} {j : Int32} {x : Int64} : wX8_end B ad K 301 L (.long x :: .int j :: .ref a :: r) σ ↔ ∃ V, σ.1 a = some (101, V) ∧ (x_ix j V).isSome ∧ B ≤ a ∧ wX8_end B ad K 302 L r (x_up σ.1 a (101, V.set j.toInt.toNat (.long x)), σ.2) := xr_lastore dX8_end_301
theorem eX8_end_302 : wX8_end B ad K 302 L r σ ↔ ∃ v, L[0]? = some v ∧ x_rfv v ∧ wX8_end B ad K 303 L (v :: r) σ := xr_aload_n dX8_end_302
theorem eX8_end_303 {a : Nat} : wX8_end B ad K 303 L (.ref a :: r) σ ↔ ∃ fs v, σ.1 a = some (8, fs) ∧ fs[40]? = some v ∧ wX8_end B ad K 306 L (v :: r) σ := xr_getfield (t := 8) (j := 40) dX8_end_303 rfl
theorem eX8_end_306 : wX8_end B ad K 306 L r σ ↔ ∃ v, L[0]? = some v ∧ x_rfv v ∧ wX8_end B ad K 307 L (v :: r) σ := xr_aload_n dX8_end_306
theorem eX8_end_307 {a : Nat} : wX8_end B ad K 307 L (.ref a :: r) σ ↔ ∃ fs v, σ.1 a = some (8, fs) ∧ fs[34]? = some v ∧ wX8_end B ad K 310 L (v :: r) σ := xr_getfield (t := 8) (j := 34) dX8_end_307 rfl
theorem eX8_end_310 : wX8_end B ad K 310 L r σ ↔ ∃ v, L[0]? = some v ∧ x_rfv v ∧ wX8_end B ad K 311 L (v :: r) σ := xr_aload_n dX8_end_310
theorem eX8_end_311 {a : Nat} : wX8_end B ad K 311 L (.ref a :: r) σ ↔ ∃ fs v, σ.1 a = some (8, fs) ∧ fs[33]? = some v ∧ wX8_end B ad K 314 L (v :: r) σ := xr_getfield (t := 8) (j := 33) dX8_end_311 rfl
theorem eX8_end_314 {a : Nat} {j : Int32} {x : Int32} : wX8_end B ad K 314 L (.int x :: .int j :: .ref a :: r) σ ↔ ∃ V, σ.1 a = some (100, V) ∧ (x_ix j V).isSome ∧ B ≤ a ∧ wX8_end B ad K 315 L r (x_up σ.1 a (100, V.set j.toInt.toNat (.int x)), σ.2) := xr_iastore dX8_end_314
theorem eX8_end_315 : wX8_end B ad K 315 L r σ ↔ ∃ v, L[0]? = some v ∧ x_rfv v ∧ wX8_end B ad K 316 L (v :: r) σ := xr_aload_n dX8_end_315
theorem eX8_end_316 {v : Value} : wX8_end B ad K 316 L (v :: r) σ ↔ (v.category = 1 ∧ wX8_end B ad K 317 L (v :: v :: r) σ) := xr_dup dX8_end_316
theorem eX8_end_317 {a : Nat} : wX8_end B ad K 317 L (.ref a :: r) σ ↔ ∃ fs v, σ.1 a = some (8, fs) ∧ fs[34]? = some v ∧ wX8_end B ad K 320 L (v :: r) σ := xr_getfield (t := 8) (j := 34) dX8_end_317 rfl
theorem eX8_end_320 : wX8_end B ad K 320 L r σ ↔ wX8_end B ad K 321 L (.int 1 :: r) σ := xr_iconst dX8_end_320 (by decide)
theorem eX8_end_321 {x y : Int32} : wX8_end B ad K 321 L (.int y :: .int x :: r) σ ↔ wX8_end B ad K 322 L (.int (x + y) :: r) σ := xr_iadd dX8_end_321
theorem eX8_end_322 {x : Int32} {a : Nat} : wX8_end B ad K 322 L (.int x :: .ref a :: r) σ ↔ ∃ fs, σ.1 a = some (8, fs) ∧ 34 < fs.length ∧ B ≤ a ∧ wX8_end B ad K 325 L r (x_up σ.1 a (8, fs.set 34 (.int x)), σ.2) := xr_put_i (t := 8) (j := 34) dX8_end_322 rfl (by decide)
theorem eX8_end_325 : wX8_end B ad K 325 L r σ ↔ ∃ v, L[0]? = some v ∧ x_rfv v ∧ wX8_end B ad K 326 L (v :: r) σ := xr_aload_n dX8_end_325
theorem eX8_end_326 {a : Nat} : wX8_end B ad K 326 L (.ref a :: r) σ ↔ ∃ fs v, σ.1 a = some (8, fs) ∧ fs[31]? = some v ∧ wX8_end B ad K 329 L (v :: r) σ := xr_getfield (t := 8) (j := 31) dX8_end_326 rfl
theorem eX8_end_329 {v : Int32} : wX8_end B ad K 329 L (.int v :: r) σ ↔ (4 < L.length ∧ x_nl L 4 ∧ wX8_end B ad K 331 (L.set 4 (.int v)) r σ) := xr_istore dX8_end_329
theorem eX8_end_331 : wX8_end B ad K 331 L r σ ↔ ∃ v, L[4]? = some (.int v) ∧ wX8_end B ad K 333 L (.int v :: r) σ := xr_iload dX8_end_331
theorem eX8_end_333 : wX8_end B ad K 333 L r σ ↔ ∃ v, L[0]? = some v ∧ x_rfv v ∧ wX8_end B ad K 334 L (v :: r) σ := xr_aload_n dX8_end_333
theorem eX8_end_334 {a : Nat} : wX8_end B ad K 334 L (.ref a :: r) σ ↔ ∃ fs v, σ.1 a = some (8, fs) ∧ fs[18]? = some v ∧ wX8_end B ad K 337 L (v :: r) σ := xr_getfield (t := 8) (j := 18) dX8_end_334 rfl
theorem eX8_end_337 {x y : Int32} : wX8_end B ad K 337 L (.int y :: .int x :: r) σ ↔ (if x.toInt < y.toInt then wX8_end B ad K 340 L r σ else wX8_end B ad K 405 L r σ) := (xr_icmp_ge dX8_end_337 (by decide)).trans x_ite
theorem eX8_end_340 : wX8_end B ad K 340 L r σ ↔ ∃ v, L[0]? = some v ∧ x_rfv v ∧ wX8_end B ad K 341 L (v :: r) σ := xr_aload_n dX8_end_340
theorem eX8_end_341 {a : Nat} : wX8_end B ad K 341 L (.ref a :: r) σ ↔ ∃ fs v, σ.1 a = some (8, fs) ∧ fs[43]? = some v ∧ wX8_end B ad K 344 L (v :: r) σ := xr_getfield (t := 8) (j := 43) dX8_end_341 rfl
theorem eX8_end_344 : wX8_end B ad K 344 L r σ ↔ ∃ v, L[2]? = some (.int v) ∧ wX8_end B ad K 345 L (.int v :: r) σ := xr_iload_n dX8_end_344
theorem eX8_end_345 : wX8_end B ad K 345 L r σ ↔ ∃ v, L[0]? = some v ∧ x_rfv v ∧ wX8_end B ad K 346 L (v :: r) σ := xr_aload_n dX8_end_345
theorem eX8_end_346 {a : Nat} : wX8_end B ad K 346 L (.ref a :: r) σ ↔ ∃ fs v, σ.1 a = some (8, fs) ∧ fs[19]? = some v ∧ wX8_end B ad K 349 L (v :: r) σ := xr_getfield (t := 8) (j := 19) dX8_end_346 rfl
theorem eX8_end_349 : wX8_end B ad K 349 L r σ ↔ ∃ v, L[4]? = some (.int v) ∧ wX8_end B ad K 351 L (.int v :: r) σ := xr_iload dX8_end_349
theorem eX8_end_351 {a : Nat} {x : Int32} : wX8_end B ad K 351 L (.int x :: .ref a :: r) σ ↔ ∃ t V v, σ.1 a = some (t, V) ∧ (t = 100 ∨ t = 106) ∧ x_ix x V = some v ∧ wX8_end B ad K 352 L (v :: r) σ := xr_iaload dX8_end_351
theorem eX8_end_352 {a : Nat} {j : Int32} {x : Int32} : wX8_end B ad K 352 L (.int x :: .int j :: .ref a :: r) σ ↔ ∃ V, σ.1 a = some (100, V) ∧ (x_ix j V).isSome ∧ B ≤ a ∧ wX8_end B ad K 353 L r (x_up σ.1 a (100, V.set j.toInt.toNat (.int x)), σ.2) := xr_iastore dX8_end_352
theorem eX8_end_353 : wX8_end B ad K 353 L r σ ↔ ∃ v, L[0]? = some v ∧ x_rfv v ∧ wX8_end B ad K 354 L (v :: r) σ := xr_aload_n dX8_end_353
theorem eX8_end_354 {a : Nat} : wX8_end B ad K 354 L (.ref a :: r) σ ↔ ∃ fs v, σ.1 a = some (8, fs) ∧ fs[44]? = some v ∧ wX8_end B ad K 357 L (v :: r) σ := xr_getfield (t := 8) (j := 44) dX8_end_354 rfl
theorem eX8_end_357 : wX8_end B ad K 357 L r σ ↔ ∃ v, L[2]? = some (.int v) ∧ wX8_end B ad K 358 L (.int v :: r) σ := xr_iload_n dX8_end_357
theorem eX8_end_358 : wX8_end B ad K 358 L r σ ↔ ∃ v, L[0]? = some v ∧ x_rfv v ∧ wX8_end B ad K 359 L (v :: r) σ := xr_aload_n dX8_end_358
theorem eX8_end_359 {a : Nat} : wX8_end B ad K 359 L (.ref a :: r) σ ↔ ∃ fs v, σ.1 a = some (8, fs) ∧ fs[20]? = some v ∧ wX8_end B ad K 362 L (v :: r) σ := xr_getfield (t := 8) (j := 20) dX8_end_359 rfl
theorem eX8_end_362 : wX8_end B ad K 362 L r σ ↔ ∃ v, L[4]? = some (.int v) ∧ wX8_end B ad K 364 L (.int v :: r) σ := xr_iload dX8_end_362
theorem eX8_end_364 {a : Nat} {x : Int32} : wX8_end B ad K 364 L (.int x :: .ref a :: r) σ ↔ ∃ t V v, σ.1 a = some (t, V) ∧ (t = 100 ∨ t = 106) ∧ x_ix x V = some v ∧ wX8_end B ad K 365 L (v :: r) σ := xr_iaload dX8_end_364
theorem eX8_end_365 {a : Nat} {j : Int32} {x : Int32} : wX8_end B ad K 365 L (.int x :: .int j :: .ref a :: r) σ ↔ ∃ V, σ.1 a = some (100, V) ∧ (x_ix j V).isSome ∧ B ≤ a ∧ wX8_end B ad K 366 L r (x_up σ.1 a (100, V.set j.toInt.toNat (.int x)), σ.2) := xr_iastore dX8_end_365
theorem eX8_end_366 : wX8_end B ad K 366 L r σ ↔ ∃ v, L[2]? = some (.int v) ∧ wX8_end B ad K 367 L (.int v :: r) σ := xr_iload_n dX8_end_366
theorem eX8_end_367 : wX8_end B ad K 367 L r σ ↔ ∃ v, L[4]? = some (.int v) ∧ wX8_end B ad K 369 L (.int v :: r) σ := xr_iload dX8_end_367
theorem eX8_end_369 : wX8_end B ad K 369 L r σ ↔ ∃ v, L[0]? = some v ∧ x_rfv v ∧ wX8_end B ad K 370 L (v :: r) σ := xr_aload_n dX8_end_369
theorem eX8_end_370 {a : Nat} : wX8_end B ad K 370 L (.ref a :: r) σ ↔ ∃ fs v, σ.1 a = some (8, fs) ∧ fs[31]? = some v ∧ wX8_end B ad K 373 L (v :: r) σ := xr_getfield (t := 8) (j := 31) dX8_end_370 rfl
theorem eX8_end_373 {x y : Int32} : wX8_end B ad K 373 L (.int y :: .int x :: r) σ ↔ (if x = y then wX8_end B ad K 376 L r σ else wX8_end B ad K 396 L r σ) := (xr_icmp_ne dX8_end_373 (by decide)).trans x_ite
theorem eX8_end_376 : wX8_end B ad K 376 L r σ ↔ ∃ v, L[0]? = some v ∧ x_rfv v ∧ wX8_end B ad K 377 L (v :: r) σ := xr_aload_n dX8_end_376
theorem eX8_end_377 {a : Nat} : wX8_end B ad K 377 L (.ref a :: r) σ ↔ ∃ fs v, σ.1 a = some (8, fs) ∧ fs[2]? = some v ∧ wX8_end B ad K 380 L (v :: r) σ := xr_getfield (t := 8) (j := 2) dX8_end_377 rfl
theorem eX8_end_380 : wX8_end B ad K 380 L r σ ↔ ∃ v, L[0]? = some v ∧ x_rfv v ∧ wX8_end B ad K 381 L (v :: r) σ := xr_aload_n dX8_end_380
theorem eX8_end_381 {a : Nat} : wX8_end B ad K 381 L (.ref a :: r) σ ↔ ∃ fs v, σ.1 a = some (8, fs) ∧ fs[19]? = some v ∧ wX8_end B ad K 384 L (v :: r) σ := xr_getfield (t := 8) (j := 19) dX8_end_381 rfl
theorem eX8_end_384 : wX8_end B ad K 384 L r σ ↔ ∃ v, L[4]? = some (.int v) ∧ wX8_end B ad K 386 L (.int v :: r) σ := xr_iload dX8_end_384
theorem eX8_end_386 {a : Nat} {x : Int32} : wX8_end B ad K 386 L (.int x :: .ref a :: r) σ ↔ ∃ t V v, σ.1 a = some (t, V) ∧ (t = 100 ∨ t = 106) ∧ x_ix x V = some v ∧ wX8_end B ad K 387 L (v :: r) σ := xr_iaload dX8_end_386
theorem eX8_end_387 {a : Nat} {x : Int32} : wX8_end B ad K 387 L (.int x :: .ref a :: r) σ ↔ ∃ t V v, σ.1 a = some (t, V) ∧ (t = 100 ∨ t = 106) ∧ x_ix x V = some v ∧ wX8_end B ad K 388 L (v :: r) σ := xr_iaload dX8_end_387
theorem eX8_end_388 : wX8_end B ad K 388 L r σ ↔ wX8_end B ad K 389 L (.int 3 :: r) σ := xr_iconst dX8_end_388 (by decide)
theorem eX8_end_389 {x y : Int32} : wX8_end B ad K 389 L (.int y :: .int x :: r) σ ↔ (if x = y then wX8_end B ad K 392 L r σ else wX8_end B ad K 396 L r σ) := (xr_icmp_ne dX8_end_389 (by decide)).trans x_ite
theorem eX8_end_392 : wX8_end B ad K 392 L r σ ↔ wX8_end B ad K 393 L (.int 0 :: r) σ := xr_iconst dX8_end_392 (by decide)
theorem eX8_end_393 : wX8_end B ad K 393 L r σ ↔ wX8_end B ad K 397 L r σ := xr_goto dX8_end_393 (by decide)
theorem eX8_end_396 : wX8_end B ad K 396 L r σ ↔ wX8_end B ad K 397 L (.int 1 :: r) σ := xr_iconst dX8_end_396 (by decide)
theorem eX8_end_397 {x y : Int32} : wX8_end B ad K 397 L (.int y :: .int x :: r) σ ↔ wX8_end B ad K 398 L (.int (x + y) :: r) σ := xr_iadd dX8_end_397
theorem eX8_end_398 {v : Int32} : wX8_end B ad K 398 L (.int v :: r) σ ↔ (2 < L.length ∧ x_nl L 2 ∧ wX8_end B ad K 399 (L.set 2 (.int v)) r σ) := xr_istore_n dX8_end_398
theorem eX8_end_399 : wX8_end B ad K 399 L r σ ↔ ∃ v, L[4]? = some (.int v) ∧ x_nl L 4 ∧ wX8_end B ad K 402 (L.set 4 (.int (v + 1))) r σ := xr_iinc dX8_end_399 (by decide)
theorem eX8_end_402 : wX8_end B ad K 402 L r σ ↔ wX8_end B ad K 331 L r σ := xr_goto dX8_end_402 (by decide)
theorem eX8_end_405 : wX8_end B ad K 405 L r σ ↔ ∃ v, L[0]? = some v ∧ x_rfv v ∧ wX8_end B ad K 406 L (v :: r) σ := xr_aload_n dX8_end_405
theorem eX8_end_406 {a : Nat} : wX8_end B ad K 406 L (.ref a :: r) σ ↔ ∃ fs v, σ.1 a = some (8, fs) ∧ fs[31]? = some v ∧ wX8_end B ad K 409 L (v :: r) σ := xr_getfield (t := 8) (j := 31) dX8_end_406 rfl
theorem eX8_end_409 : wX8_end B ad K 409 L r σ ↔ ∃ v, L[0]? = some v ∧ x_rfv v ∧ wX8_end B ad K 410 L (v :: r) σ := xr_aload_n dX8_end_409
theorem eX8_end_410 {a : Nat} : wX8_end B ad K 410 L (.ref a :: r) σ ↔ ∃ fs v, σ.1 a = some (8, fs) ∧ fs[18]? = some v ∧ wX8_end B ad K 413 L (v :: r) σ := xr_getfield (t := 8) (j := 18) dX8_end_410 rfl
theorem eX8_end_413 {x y : Int32} : wX8_end B ad K 413 L (.int y :: .int x :: r) σ ↔ (if x = y then wX8_end B ad K 416 L r σ else wX8_end B ad K 435 L r σ) := (xr_icmp_ne dX8_end_413 (by decide)).trans x_ite
theorem eX8_end_416 : wX8_end B ad K 416 L r σ ↔ ∃ v, L[0]? = some v ∧ x_rfv v ∧ wX8_end B ad K 417 L (v :: r) σ := xr_aload_n dX8_end_416
theorem eX8_end_417 {a : Nat} : wX8_end B ad K 417 L (.ref a :: r) σ ↔ ∃ fs v, σ.1 a = some (8, fs) ∧ fs[2]? = some v ∧ wX8_end B ad K 420 L (v :: r) σ := xr_getfield (t := 8) (j := 2) dX8_end_417 rfl
theorem eX8_end_420 : wX8_end B ad K 420 L r σ ↔ ∃ v, L[0]? = some v ∧ x_rfv v ∧ wX8_end B ad K 421 L (v :: r) σ := xr_aload_n dX8_end_420
theorem eX8_end_421 {a : Nat} : wX8_end B ad K 421 L (.ref a :: r) σ ↔ ∃ fs v, σ.1 a = some (8, fs) ∧ fs[16]? = some v ∧ wX8_end B ad K 424 L (v :: r) σ := xr_getfield (t := 8) (j := 16) dX8_end_421 rfl
theorem eX8_end_424 : wX8_end B ad K 424 L r σ ↔ wX8_end B ad K 425 L (.int 0 :: r) σ := xr_iconst dX8_end_424 (by decide)
theorem eX8_end_425 {a : Nat} {x : Int32} : wX8_end B ad K 425 L (.int x :: .ref a :: r) σ ↔ ∃ t V v, σ.1 a = some (t, V) ∧ (t = 100 ∨ t = 106) ∧ x_ix x V = some v ∧ wX8_end B ad K 426 L (v :: r) σ := xr_iaload dX8_end_425
theorem eX8_end_426 {a : Nat} {x : Int32} : wX8_end B ad K 426 L (.int x :: .ref a :: r) σ ↔ ∃ t V v, σ.1 a = some (t, V) ∧ (t = 100 ∨ t = 106) ∧ x_ix x V = some v ∧ wX8_end B ad K 427 L (v :: r) σ := xr_iaload dX8_end_426
theorem eX8_end_427 : wX8_end B ad K 427 L r σ ↔ wX8_end B ad K 428 L (.int 3 :: r) σ := xr_iconst dX8_end_427 (by decide)
theorem eX8_end_428 {x y : Int32} : wX8_end B ad K 428 L (.int y :: .int x :: r) σ ↔ (if x = y then wX8_end B ad K 431 L r σ else wX8_end B ad K 435 L r σ) := (xr_icmp_ne dX8_end_428 (by decide)).trans x_ite
theorem eX8_end_431 : wX8_end B ad K 431 L r σ ↔ wX8_end B ad K 432 L (.int 1 :: r) σ := xr_iconst dX8_end_431 (by decide)
theorem eX8_end_432 : wX8_end B ad K 432 L r σ ↔ wX8_end B ad K 436 L r σ := xr_goto dX8_end_432 (by decide)
theorem eX8_end_435 : wX8_end B ad K 435 L r σ ↔ wX8_end B ad K 436 L (.int 0 :: r) σ := xr_iconst dX8_end_435 (by decide)
theorem eX8_end_436 {v : Int32} : wX8_end B ad K 436 L (.int v :: r) σ ↔ (4 < L.length ∧ x_nl L 4 ∧ wX8_end B ad K 438 (L.set 4 (.int v)) r σ) := xr_istore dX8_end_436
theorem eX8_end_438 : wX8_end B ad K 438 L r σ ↔ ∃ v, L[4]? = some (.int v) ∧ wX8_end B ad K 440 L (.int v :: r) σ := xr_iload dX8_end_438
theorem eX8_end_440 {v : Int32} : wX8_end B ad K 440 L (.int v :: r) σ ↔ (5 < L.length ∧ x_nl L 5 ∧ wX8_end B ad K 442 (L.set 5 (.int v)) r σ) := xr_istore dX8_end_440
theorem eX8_end_442 : wX8_end B ad K 442 L r σ ↔ ∃ v, L[5]? = some (.int v) ∧ wX8_end B ad K 444 L (.int v :: r) σ := xr_iload dX8_end_442
theorem eX8_end_444 : wX8_end B ad K 444 L r σ ↔ ∃ v, L[0]? = some v ∧ x_rfv v ∧ wX8_end B ad K 445 L (v :: r) σ := xr_aload_n dX8_end_444
theorem eX8_end_445 {a : Nat} : wX8_end B ad K 445 L (.ref a :: r) σ ↔ ∃ fs v, σ.1 a = some (8, fs) ∧ fs[15]? = some v ∧ wX8_end B ad K 448 L (v :: r) σ := xr_getfield (t := 8) (j := 15) dX8_end_445 rfl
theorem eX8_end_448 {x y : Int32} : wX8_end B ad K 448 L (.int y :: .int x :: r) σ ↔ (if x.toInt < y.toInt then wX8_end B ad K 451 L r σ else wX8_end B ad K 486 L r σ) := (xr_icmp_ge dX8_end_448 (by decide)).trans x_ite
theorem eX8_end_451 : wX8_end B ad K 451 L r σ ↔ ∃ v, L[0]? = some v ∧ x_rfv v ∧ wX8_end B ad K 452 L (v :: r) σ := xr_aload_n dX8_end_451
theorem eX8_end_452 {a : Nat} : wX8_end B ad K 452 L (.ref a :: r) σ ↔ ∃ fs v, σ.1 a = some (8, fs) ∧ fs[43]? = some v ∧ wX8_end B ad K 455 L (v :: r) σ := xr_getfield (t := 8) (j := 43) dX8_end_452 rfl
theorem eX8_end_455 : wX8_end B ad K 455 L r σ ↔ ∃ v, L[2]? = some (.int v) ∧ wX8_end B ad K 456 L (.int v :: r) σ := xr_iload_n dX8_end_455
theorem eX8_end_456 : wX8_end B ad K 456 L r σ ↔ ∃ v, L[0]? = some v ∧ x_rfv v ∧ wX8_end B ad K 457 L (v :: r) σ := xr_aload_n dX8_end_456
theorem eX8_end_457 {a : Nat} : wX8_end B ad K 457 L (.ref a :: r) σ ↔ ∃ fs v, σ.1 a = some (8, fs) ∧ fs[16]? = some v ∧ wX8_end B ad K 460 L (v :: r) σ := xr_getfield (t := 8) (j := 16) dX8_end_457 rfl
theorem eX8_end_460 : wX8_end B ad K 460 L r σ ↔ ∃ v, L[5]? = some (.int v) ∧ wX8_end B ad K 462 L (.int v :: r) σ := xr_iload dX8_end_460
theorem eX8_end_462 {a : Nat} {x : Int32} : wX8_end B ad K 462 L (.int x :: .ref a :: r) σ ↔ ∃ t V v, σ.1 a = some (t, V) ∧ (t = 100 ∨ t = 106) ∧ x_ix x V = some v ∧ wX8_end B ad K 463 L (v :: r) σ := xr_iaload dX8_end_462
theorem eX8_end_463 {a : Nat} {j : Int32} {x : Int32} : wX8_end B ad K 463 L (.int x :: .int j :: .ref a :: r) σ ↔ ∃ V, σ.1 a = some (100, V) ∧ (x_ix j V).isSome ∧ B ≤ a ∧ wX8_end B ad K 464 L r (x_up σ.1 a (100, V.set j.toInt.toNat (.int x)), σ.2) := xr_iastore dX8_end_463
theorem eX8_end_464 : wX8_end B ad K 464 L r σ ↔ ∃ v, L[0]? = some v ∧ x_rfv v ∧ wX8_end B ad K 465 L (v :: r) σ := xr_aload_n dX8_end_464
theorem eX8_end_465 {a : Nat} : wX8_end B ad K 465 L (.ref a :: r) σ ↔ ∃ fs v, σ.1 a = some (8, fs) ∧ fs[44]? = some v ∧ wX8_end B ad K 468 L (v :: r) σ := xr_getfield (t := 8) (j := 44) dX8_end_465 rfl
theorem eX8_end_468 : wX8_end B ad K 468 L r σ ↔ ∃ v, L[2]? = some (.int v) ∧ wX8_end B ad K 469 L (.int v :: r) σ := xr_iload_n dX8_end_468
theorem eX8_end_469 : wX8_end B ad K 469 L r σ ↔ ∃ v, L[0]? = some v ∧ x_rfv v ∧ wX8_end B ad K 470 L (v :: r) σ := xr_aload_n dX8_end_469
theorem eX8_end_470 {a : Nat} : wX8_end B ad K 470 L (.ref a :: r) σ ↔ ∃ fs v, σ.1 a = some (8, fs) ∧ fs[17]? = some v ∧ wX8_end B ad K 473 L (v :: r) σ := xr_getfield (t := 8) (j := 17) dX8_end_470 rfl
theorem eX8_end_473 : wX8_end B ad K 473 L r σ ↔ ∃ v, L[5]? = some (.int v) ∧ wX8_end B ad K 475 L (.int v :: r) σ := xr_iload dX8_end_473
theorem eX8_end_475 {a : Nat} {x : Int32} : wX8_end B ad K 475 L (.int x :: .ref a :: r) σ ↔ ∃ t V v, σ.1 a = some (t, V) ∧ (t = 100 ∨ t = 106) ∧ x_ix x V = some v ∧ wX8_end B ad K 476 L (v :: r) σ := xr_iaload dX8_end_475
theorem eX8_end_476 {a : Nat} {j : Int32} {x : Int32} : wX8_end B ad K 476 L (.int x :: .int j :: .ref a :: r) σ ↔ ∃ V, σ.1 a = some (100, V) ∧ (x_ix j V).isSome ∧ B ≤ a ∧ wX8_end B ad K 477 L r (x_up σ.1 a (100, V.set j.toInt.toNat (.int x)), σ.2) := xr_iastore dX8_end_476
theorem eX8_end_477 : wX8_end B ad K 477 L r σ ↔ ∃ v, L[2]? = some (.int v) ∧ x_nl L 2 ∧ wX8_end B ad K 480 (L.set 2 (.int (v + 1))) r σ := xr_iinc dX8_end_477 (by decide)
theorem eX8_end_480 : wX8_end B ad K 480 L r σ ↔ ∃ v, L[5]? = some (.int v) ∧ x_nl L 5 ∧ wX8_end B ad K 483 (L.set 5 (.int (v + 1))) r σ := xr_iinc dX8_end_480 (by decide)
theorem eX8_end_483 : wX8_end B ad K 483 L r σ ↔ wX8_end B ad K 442 L r σ := xr_goto dX8_end_483 (by decide)
theorem eX8_end_486 : wX8_end B ad K 486 L r σ ↔ ∃ v, L[0]? = some v ∧ x_rfv v ∧ wX8_end B ad K 487 L (v :: r) σ := xr_aload_n dX8_end_486
theorem eX8_end_487 : wX8_end B ad K 487 L r σ ↔ ∃ v, L[2]? = some (.int v) ∧ wX8_end B ad K 488 L (.int v :: r) σ := xr_iload_n dX8_end_487
theorem eX8_end_488 {x : Int32} {a : Nat} : wX8_end B ad K 488 L (.int x :: .ref a :: r) σ ↔ ∃ fs, σ.1 a = some (8, fs) ∧ 15 < fs.length ∧ B ≤ a ∧ wX8_end B ad K 491 L r (x_up σ.1 a (8, fs.set 15 (.int x)), σ.2) := xr_put_i (t := 8) (j := 15) dX8_end_488 rfl (by decide)
theorem eX8_end_491 : wX8_end B ad K 491 L r σ ↔ wX8_end B ad K 492 L (.int 0 :: r) σ := xr_iconst dX8_end_491 (by decide)
theorem eX8_end_492 {v : Int32} : wX8_end B ad K 492 L (.int v :: r) σ ↔ (5 < L.length ∧ x_nl L 5 ∧ wX8_end B ad K 494 (L.set 5 (.int v)) r σ) := xr_istore dX8_end_492
theorem eX8_end_494 : wX8_end B ad K 494 L r σ ↔ ∃ v, L[5]? = some (.int v) ∧ wX8_end B ad K 496 L (.int v :: r) σ := xr_iload dX8_end_494
theorem eX8_end_496 : wX8_end B ad K 496 L r σ ↔ ∃ v, L[2]? = some (.int v) ∧ wX8_end B ad K 497 L (.int v :: r) σ := xr_iload_n dX8_end_496
theorem eX8_end_497 {x y : Int32} : wX8_end B ad K 497 L (.int y :: .int x :: r) σ ↔ (if x.toInt < y.toInt then wX8_end B ad K 500 L r σ else wX8_end B ad K 534 L r σ) := (xr_icmp_ge dX8_end_497 (by decide)).trans x_ite
theorem eX8_end_500 : wX8_end B ad K 500 L r σ ↔ ∃ v, L[0]? = some v ∧ x_rfv v ∧ wX8_end B ad K 501 L (v :: r) σ := xr_aload_n dX8_end_500
theorem eX8_end_501 {a : Nat} : wX8_end B ad K 501 L (.ref a :: r) σ ↔ ∃ fs v, σ.1 a = some (8, fs) ∧ fs[16]? = some v ∧ wX8_end B ad K 504 L (v :: r) σ := xr_getfield (t := 8) (j := 16) dX8_end_501 rfl
theorem eX8_end_504 : wX8_end B ad K 504 L r σ ↔ ∃ v, L[5]? = some (.int v) ∧ wX8_end B ad K 506 L (.int v :: r) σ := xr_iload dX8_end_504
theorem eX8_end_506 : wX8_end B ad K 506 L r σ ↔ ∃ v, L[0]? = some v ∧ x_rfv v ∧ wX8_end B ad K 507 L (v :: r) σ := xr_aload_n dX8_end_506
theorem eX8_end_507 {a : Nat} : wX8_end B ad K 507 L (.ref a :: r) σ ↔ ∃ fs v, σ.1 a = some (8, fs) ∧ fs[43]? = some v ∧ wX8_end B ad K 510 L (v :: r) σ := xr_getfield (t := 8) (j := 43) dX8_end_507 rfl
theorem eX8_end_510 : wX8_end B ad K 510 L r σ ↔ ∃ v, L[5]? = some (.int v) ∧ wX8_end B ad K 512 L (.int v :: r) σ := xr_iload dX8_end_510
theorem eX8_end_512 {a : Nat} {x : Int32} : wX8_end B ad K 512 L (.int x :: .ref a :: r) σ ↔ ∃ t V v, σ.1 a = some (t, V) ∧ (t = 100 ∨ t = 106) ∧ x_ix x V = some v ∧ wX8_end B ad K 513 L (v :: r) σ := xr_iaload dX8_end_512
theorem eX8_end_513 {a : Nat} {j : Int32} {x : Int32} : wX8_end B ad K 513 L (.int x :: .int j :: .ref a :: r) σ ↔ ∃ V, σ.1 a = some (100, V) ∧ (x_ix j V).isSome ∧ B ≤ a ∧ wX8_end B ad K 514 L r (x_up σ.1 a (100, V.set j.toInt.toNat (.int x)), σ.2) := xr_iastore dX8_end_513
theorem eX8_end_514 : wX8_end B ad K 514 L r σ ↔ ∃ v, L[0]? = some v ∧ x_rfv v ∧ wX8_end B ad K 515 L (v :: r) σ := xr_aload_n dX8_end_514
theorem eX8_end_515 {a : Nat} : wX8_end B ad K 515 L (.ref a :: r) σ ↔ ∃ fs v, σ.1 a = some (8, fs) ∧ fs[17]? = some v ∧ wX8_end B ad K 518 L (v :: r) σ := xr_getfield (t := 8) (j := 17) dX8_end_515 rfl
theorem eX8_end_518 : wX8_end B ad K 518 L r σ ↔ ∃ v, L[5]? = some (.int v) ∧ wX8_end B ad K 520 L (.int v :: r) σ := xr_iload dX8_end_518
theorem eX8_end_520 : wX8_end B ad K 520 L r σ ↔ ∃ v, L[0]? = some v ∧ x_rfv v ∧ wX8_end B ad K 521 L (v :: r) σ := xr_aload_n dX8_end_520
theorem eX8_end_521 {a : Nat} : wX8_end B ad K 521 L (.ref a :: r) σ ↔ ∃ fs v, σ.1 a = some (8, fs) ∧ fs[44]? = some v ∧ wX8_end B ad K 524 L (v :: r) σ := xr_getfield (t := 8) (j := 44) dX8_end_521 rfl
theorem eX8_end_524 : wX8_end B ad K 524 L r σ ↔ ∃ v, L[5]? = some (.int v) ∧ wX8_end B ad K 526 L (.int v :: r) σ := xr_iload dX8_end_524
theorem eX8_end_526 {a : Nat} {x : Int32} : wX8_end B ad K 526 L (.int x :: .ref a :: r) σ ↔ ∃ t V v, σ.1 a = some (t, V) ∧ (t = 100 ∨ t = 106) ∧ x_ix x V = some v ∧ wX8_end B ad K 527 L (v :: r) σ := xr_iaload dX8_end_526
theorem eX8_end_527 {a : Nat} {j : Int32} {x : Int32} : wX8_end B ad K 527 L (.int x :: .int j :: .ref a :: r) σ ↔ ∃ V, σ.1 a = some (100, V) ∧ (x_ix j V).isSome ∧ B ≤ a ∧ wX8_end B ad K 528 L r (x_up σ.1 a (100, V.set j.toInt.toNat (.int x)), σ.2) := xr_iastore dX8_end_527
theorem eX8_end_528 : wX8_end B ad K 528 L r σ ↔ ∃ v, L[5]? = some (.int v) ∧ x_nl L 5 ∧ wX8_end B ad K 531 (L.set 5 (.int (v + 1))) r σ := xr_iinc dX8_end_528 (by decide)
theorem eX8_end_531 : wX8_end B ad K 531 L r σ ↔ wX8_end B ad K 494 L r σ := xr_goto dX8_end_531 (by decide)
theorem eX8_end_534 : wX8_end B ad K 534 L r σ ↔ ∃ v, L[0]? = some v ∧ x_rfv v ∧ wX8_end B ad K 535 L (v :: r) σ := xr_aload_n dX8_end_534
theorem eX8_end_535 {v0 : Value} : wX8_end B ad K 535 L (v0 :: r) σ ↔ ((r.map fun v => v.category).sum ≤ 8 ∧ x_cl (x_v 8 (eX8_begin B ad)) [v0] σ (fun v g => wX8_end B ad K 538 L (v.toList ++ r) g)) := xr_callV [v0] r dX8_end_535 rfl
theorem eX8_end_538 : wX8_end B ad K 538 L [] σ ↔ K none σ := xr_return dX8_end_538
end
