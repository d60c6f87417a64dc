abbrev wX7_told (B : Nat) (ad : Nat → Nat) (K : xK) : Nat → List Value → List Value → xW → Prop := x_WP B (some .long) (cxX7_told B ad) cX7_told K
section
variable {B : Nat} {ad : Nat → Nat} {K : xK} {L r : List Value} {σ : xW}
theorem eX7_told_0 : wX7_told B ad K 0 L r σ ↔ ∃ v, L[0]? = some v ∧ x_rfv v ∧ wX7_told B ad K 1 L (v :: r) σ := xr_aload_n dX7_told_0
theorem eX7_told_1 : wX7_told B ad K 1 L r σ ↔ ∃ v, L[1]? = some (.int v) ∧ wX7_told B ad K 2 L (.int v :: r) σ := xr_iload_n dX7_told_1
theorem eX7_told_2 {v0 v1 : Value} : wX7_told B ad K 2 L (v1 :: v0 :: r) σ ↔ ((r.map fun v => v.category).sum ≤ 8 ∧ x_cl (x_v 7 (eX7_endedPage B ad)) [v0, v1] σ (fun v g => wX7_told B ad K 5 L (v.toList ++ r) g)) := xr_callV [v0, v1] r dX7_told_2 rfl
theorem eX7_told_5 {v : Value} : wX7_told B ad K 5 L (v :: r) σ ↔ (x_rfv v ∧ 3 < L.length ∧ x_nl L 3 ∧ wX7_told B ad K 6 (L.set 3 v) r σ) := xr_astore_n dX7_told_5
theorem eX7_told_6 : wX7_told B ad K 6 L r σ ↔ ∃ v, L[3]? = some v ∧ x_rfv v ∧ wX7_told B ad K 7 L (v :: r) σ := xr_aload_n dX7_told_6
theorem eX7_told_7 {v : Value} : wX7_told B ad K 7 L (v :: r) σ ↔ (x_rfv v ∧ (if v = .null then wX7_told B ad K 10 L r σ else wX7_told B ad K 14 L r σ)) := (xr_ifnonnull dX7_told_7 (by decide)).trans (and_congr_right fun _ => x_ite)
theorem eX7_told_10 : wX7_told B ad K 10 L r σ ↔ wX7_told B ad K 13 L (.long (-1) :: r) σ := xr_ldc2 dX7_told_10 rfl
theorem eX7_told_13 {x : Int64} : wX7_told B ad K 13 L [.long x] σ ↔ K (some (.long x)) σ := xr_lreturn dX7_told_13
theorem eX7_told_14 : wX7_told B ad K 14 L r σ ↔ ∃ v, L[2]? = some (.int v) ∧ wX7_told B ad K 15 L (.int v :: r) σ := xr_iload_n dX7_told_14
theorem eX7_told_88 : wX7_told B ad K 88 L r σ ↔ ∃ v, L[3]? = some v ∧ x_rfv v ∧ wX7_told B ad K 89 L (v :: r) σ := xr_aload_n dX7_told_88
theorem eX7_told_89 {a : Nat} : wX7_told B ad K 89 L (.ref a :: r) σ ↔ ∃ fs v, σ.1 a = some (6, fs) ∧ fs[0]? = some v ∧ wX7_told B ad K 92 L (v :: r) σ := xr_getfield (t := 6) (j := 0) dX7_told_89 rfl
theorem eX7_told_92 {a : Nat} : wX7_told B ad K 92 L (.ref a :: r) σ ↔ ∃ t V, σ.1 a = some (t, V) ∧ 100 ≤ t ∧ t ≤ 106 ∧ wX7_told B ad K 93 L (.int (Int32.ofNat V.length) :: r) σ := xr_alen dX7_told_92
theorem eX7_told_93 {x : Int32} : wX7_told B ad K 93 L (.int x :: r) σ ↔ wX7_told B ad K 94 L (.long x.toInt64 :: r) σ := xr_i2l dX7_told_93
theorem eX7_told_94 {x : Int64} : wX7_told B ad K 94 L [.long x] σ ↔ K (some (.long x)) σ := xr_lreturn dX7_told_94
theorem eX7_told_95 : wX7_told B ad K 95 L r σ ↔ ∃ v, L[3]? = some v ∧ x_rfv v ∧ wX7_told B ad K 96 L (v :: r) σ := xr_aload_n dX7_told_95
theorem eX7_told_96 {a : Nat} : wX7_told B ad K 96 L (.ref a :: r) σ ↔ ∃ fs v, σ.1 a = some (6, fs) ∧ fs[3]? = some v ∧ wX7_told B ad K 99 L (v :: r) σ := xr_getfield (t := 6) (j := 3) dX7_told_96 rfl
theorem eX7_told_99 {x : Int64} : wX7_told B ad K 99 L [.long x] σ ↔ K (some (.long x)) σ := xr_lreturn dX7_told_99
theorem eX7_told_100 : wX7_told B ad K 100 L r σ ↔ ∃ v, L[3]? = some v ∧ x_rfv v ∧ wX7_told B ad K 101 L (v :: r) σ := xr_aload_n dX7_told_100
theorem eX7_told_101 {a : Nat} : wX7_told B ad K 101 L (.ref a :: r) σ ↔ ∃ fs v, σ.1 a = some (6, fs) ∧ fs[4]? = some v ∧ wX7_told B ad K 104 L (v :: r) σ := xr_getfield (t := 6) (j := 4) dX7_told_101 rfl
theorem eX7_told_104 {x : Int32} : wX7_told B ad K 104 L (.int x :: r) σ ↔ wX7_told B ad K 105 L (.long x.toInt64 :: r) σ := xr_i2l dX7_told_104
theorem eX7_told_105 {x : Int64} : wX7_told B ad K 105 L [.long x] σ ↔ K (some (.long x)) σ := xr_lreturn dX7_told_105
theorem eX7_told_106 : wX7_told B ad K 106 L r σ ↔ ∃ v, L[3]? = some v ∧ x_rfv v ∧ wX7_told B ad K 107 L (v :: r) σ := xr_aload_n dX7_told_106
theorem eX7_told_107 {a : Nat} : wX7_told B ad K 107 L (.ref a :: r) σ ↔ ∃ fs v, σ.1 a = some (6, fs) ∧ fs[2]? = some v ∧ wX7_told B ad K 110 L (v :: r) σ := xr_getfield (t := 6) (j := 2) dX7_told_107 rfl
theorem eX7_told_110 {a : Nat} : wX7_told B ad K 110 L (.ref a :: r) σ ↔ ∃ fs v, σ.1 a = some (5, fs) ∧ fs[5]? = some v ∧ wX7_told B ad K 113 L (v :: r) σ := xr_getfield (t := 5) (j := 5) dX7_told_110 rfl
theorem eX7_told_113 : wX7_told B ad K 113 L r σ ↔ ∃ v, L[2]? = some (.int v) ∧ wX7_told B ad K 114 L (.int v :: r) σ := xr_iload_n dX7_told_113
theorem eX7_told_114 : wX7_told B ad K 114 L r σ ↔ wX7_told B ad K 116 L (.int 11 :: r) σ := xr_bipush dX7_told_114 (by decide)
theorem eX7_told_116 {x y : Int32} : wX7_told B ad K 116 L (.int y :: .int x :: r) σ ↔ wX7_told B ad K 117 L (.int (x - y) :: r) σ := xr_isub dX7_told_116
theorem eX7_told_117 {a : Nat} {x : Int32} : wX7_told B ad K 117 L (.int x :: .ref a :: r) σ ↔ ∃ V v, σ.1 a = some (101, V) ∧ x_ix x V = some v ∧ wX7_told B ad K 118 L (v :: r) σ := xr_laload dX7_told_117
theorem eX7_told_118 {x : Int64} : wX7_told B ad K 118 L [.long x] σ ↔ K (some (.long x)) σ := xr_lreturn dX7_told_118
theorem eX7_told_119 : wX7_told B ad K 119 L r σ ↔ ∃ v, L[3]? = some v ∧ x_rfv v ∧ wX7_told B ad K 120 L (v :: r) σ := xr_aload_n dX7_told_119
theorem eX7_told_120 {a : Nat} : wX7_told B ad K 120 L (.ref a :: r) σ ↔ ∃ fs v, σ.1 a = some (6, fs) ∧ fs[2]? = some v ∧ wX7_told B ad K 123 L (v :: r) σ := xr_getfield (t := 6) (j := 2) dX7_told_120 rfl
theorem eX7_told_123 : wX7_told B ad K 123 L r σ ↔ ∃ v, L[2]? = some (.int v) ∧ wX7_told B ad K 124 L (.int v :: r) σ := xr_iload_n dX7_told_123
theorem eX7_told_124 {v0 v1 : Value} : wX7_told B ad K 124 L (v1 :: v0 :: r) σ ↔ ((r.map fun v => v.category).sum ≤ 8 ∧ x_cl (x_v 5 (eX5_entry B ad)) [v0, v1] σ (fun v g => wX7_told B ad K 127 L (v.toList ++ r) g)) := xr_callV [v0, v1] r dX7_told_124 rfl
theorem eX7_told_127 {x : Int64} : wX7_told B ad K 127 L [.long x] σ ↔ K (some (.long x)) σ := xr_lreturn dX7_told_127
end
abbrev wX7_marked (B : Nat) (ad : Nat → Nat) (K : xK) : Nat → List Value → List Value → xW → Prop := x_WP B (some .int) (cxX7_marked B ad) cX7_marked K
section
variable {B : Nat} {ad : Nat → Nat} {K : xK} {L r : List Value} {σ : xW}
theorem eX7_marked_0 : wX7_marked B ad K 0 L r σ ↔ ∃ v, L[0]? = some v ∧ x_rfv v ∧ wX7_marked B ad K 1 L (v :: r) σ := xr_aload_n dX7_marked_0
theorem eX7_marked_1 : wX7_marked B ad K 1 L r σ ↔ ∃ v, L[1]? = some (.int v) ∧ wX7_marked B ad K 2 L (.int v :: r) σ := xr_iload_n dX7_marked_1
theorem eX7_marked_2 {v0 v1 : Value} : wX7_marked B ad K 2 L (v1 :: v0 :: r) σ ↔ ((r.map fun v => v.category).sum ≤ 8 ∧ x_cl (x_v 7 (eX7_endedPage B ad)) [v0, v1] σ (fun v g => wX7_marked B ad K 5 L (v.toList ++ r) g)) := xr_callV [v0, v1] r dX7_marked_2 rfl
theorem eX7_marked_5 {v : Value} : wX7_marked B ad K 5 L (v :: r) σ ↔ (x_rfv v ∧ 3 < L.length ∧ x_nl L 3 ∧ wX7_marked B ad K 6 (L.set 3 v) r σ) := xr_astore_n dX7_marked_5
theorem eX7_marked_6 : wX7_marked B ad K 6 L r σ ↔ ∃ v, L[3]? = some v ∧ x_rfv v ∧ wX7_marked B ad K 7 L (v :: r) σ := xr_aload_n dX7_marked_6
theorem eX7_marked_7 {v : Value} : wX7_marked B ad K 7 L (v :: r) σ ↔ (x_rfv v ∧ (if v = .null then wX7_marked B ad K 19 L r σ else wX7_marked B ad K 10 L r σ)) := (xr_ifnull dX7_marked_7 (by decide)).trans (and_congr_right fun _ => x_ite)
theorem eX7_marked_10 : wX7_marked B ad K 10 L r σ ↔ ∃ v, L[2]? = some (.int v) ∧ wX7_marked B ad K 11 L (.int v :: r) σ := xr_iload_n dX7_marked_10
theorem eX7_marked_11 : wX7_marked B ad K 11 L r σ ↔ wX7_marked B ad K 12 L (.int 0 :: r) σ := xr_iconst dX7_marked_11 (by decide)
theorem eX7_marked_12 : wX7_marked B ad K 12 L r σ ↔ wX7_marked B ad K 13 L (.int 2 :: r) σ := xr_iconst dX7_marked_12 (by decide)
theorem eX7_marked_13 {v0 v1 v2 : Value} : wX7_marked B ad K 13 L (v2 :: v1 :: v0 :: r) σ ↔ ((r.map fun v => v.category).sum ≤ 8 ∧ x_cl (eX7_within B ad) [v0, v1, v2] σ (fun v g => wX7_marked B ad K 16 L (v.toList ++ r) g)) := xr_callS [v0, v1, v2] r dX7_marked_13 rfl
theorem eX7_marked_16 {x : Int32} : wX7_marked B ad K 16 L (.int x :: r) σ ↔ (if x = 0 then wX7_marked B ad K 19 L r σ else wX7_marked B ad K 29 L r σ) := (xr_if_ne dX7_marked_16 (by decide)).trans x_ite
theorem eX7_marked_22 {v : Value} : wX7_marked B ad K 22 L (v :: r) σ ↔ (v.category = 1 ∧ wX7_marked B ad K 23 L (v :: v :: r) σ) := xr_dup dX7_marked_22
theorem eX7_marked_29 : wX7_marked B ad K 29 L r σ ↔ ∃ v, L[2]? = some (.int v) ∧ wX7_marked B ad K 30 L (.int v :: r) σ := xr_iload_n dX7_marked_29
theorem eX7_marked_30 {x : Int32} : wX7_marked B ad K 30 L (.int x :: r) σ ↔ (if x = 0 then wX7_marked B ad K 33 L r σ else wX7_marked B ad K 38 L r σ) := (xr_if_ne dX7_marked_30 (by decide)).trans x_ite
theorem eX7_marked_33 : wX7_marked B ad K 33 L r σ ↔ ∃ v, L[3]? = some v ∧ x_rfv v ∧ wX7_marked B ad K 34 L (v :: r) σ := xr_aload_n dX7_marked_33
theorem eX7_marked_34 {a : Nat} : wX7_marked B ad K 34 L (.ref a :: r) σ ↔ ∃ fs v, σ.1 a = some (6, fs) ∧ fs[5]? = some v ∧ wX7_marked B ad K 37 L (v :: r) σ := xr_getfield (t := 6) (j := 5) dX7_marked_34 rfl
theorem eX7_marked_37 {x : Int32} : wX7_marked B ad K 37 L [.int x] σ ↔ K (some (.int x)) σ := xr_ireturn dX7_marked_37
theorem eX7_marked_38 : wX7_marked B ad K 38 L r σ ↔ ∃ v, L[2]? = some (.int v) ∧ wX7_marked B ad K 39 L (.int v :: r) σ := xr_iload_n dX7_marked_38
theorem eX7_marked_39 : wX7_marked B ad K 39 L r σ ↔ wX7_marked B ad K 40 L (.int 1 :: r) σ := xr_iconst dX7_marked_39 (by decide)
theorem eX7_marked_40 {x y : Int32} : wX7_marked B ad K 40 L (.int y :: .int x :: r) σ ↔ (if x = y then wX7_marked B ad K 43 L r σ else wX7_marked B ad K 50 L r σ) := (xr_icmp_ne dX7_marked_40 (by decide)).trans x_ite
theorem eX7_marked_43 : wX7_marked B ad K 43 L r σ ↔ ∃ v, L[3]? = some v ∧ x_rfv v ∧ wX7_marked B ad K 44 L (v :: r) σ := xr_aload_n dX7_marked_43
theorem eX7_marked_44 {a : Nat} : wX7_marked B ad K 44 L (.ref a :: r) σ ↔ ∃ fs v, σ.1 a = some (6, fs) ∧ fs[6]? = some v ∧ wX7_marked B ad K 47 L (v :: r) σ := xr_getfield (t := 6) (j := 6) dX7_marked_44 rfl
theorem eX7_marked_47 : wX7_marked B ad K 47 L r σ ↔ wX7_marked B ad K 54 L r σ := xr_goto dX7_marked_47 (by decide)
theorem eX7_marked_50 : wX7_marked B ad K 50 L r σ ↔ ∃ v, L[3]? = some v ∧ x_rfv v ∧ wX7_marked B ad K 51 L (v :: r) σ := xr_aload_n dX7_marked_50
theorem eX7_marked_51 {a : Nat} : wX7_marked B ad K 51 L (.ref a :: r) σ ↔ ∃ fs v, σ.1 a = some (6, fs) ∧ fs[7]? = some v ∧ wX7_marked B ad K 54 L (v :: r) σ := xr_getfield (t := 6) (j := 7) dX7_marked_51 rfl
theorem eX7_marked_54 {x : Int32} : wX7_marked B ad K 54 L [.int x] σ ↔ K (some (.int x)) σ := xr_ireturn dX7_marked_54
end
abbrev wX7_now (B : Nat) (ad : Nat → Nat) (K : xK) : Nat → List Value → List Value → xW → Prop := x_WP B (some .long) (cxX7_now B ad) cX7_now K
section
variable {B : Nat} {ad : Nat → Nat} {K : xK} {L r : List Value} {σ : xW}
theorem eX7_now_0 : wX7_now B ad K 0 L r σ ↔ ∃ v, L[0]? = some v ∧ x_rfv v ∧ wX7_now B ad K 1 L (v :: r) σ := xr_aload_n dX7_now_0
theorem eX7_now_1 {a : Nat} : wX7_now B ad K 1 L (.ref a :: r) σ ↔ ∃ fs v, σ.1 a = some (7, fs) ∧ fs[6]? = some v ∧ wX7_now B ad K 4 L (v :: r) σ := xr_getfield (t := 7) (j := 6) dX7_now_1 rfl
theorem eX7_now_4 : wX7_now B ad K 4 L r σ ↔ wX7_now B ad K 5 L (.int 0 :: r) σ := xr_iconst dX7_now_4 (by decide)
theorem eX7_now_5 {v0 v1 : Value} : wX7_now B ad K 5 L (v1 :: v0 :: r) σ ↔ ((r.map fun v => v.category).sum ≤ 8 ∧ x_cl (x_v 4 (eX4_look B ad)) [v0, v1] σ (fun v g => wX7_now B ad K 8 L (v.toList ++ r) g)) := xr_callV [v0, v1] r dX7_now_5 rfl
theorem eX7_now_8 {v : Value} : wX7_now B ad K 8 L (v :: r) σ ↔ (x_rfv v ∧ 2 < L.length ∧ x_nl L 2 ∧ wX7_now B ad K 9 (L.set 2 v) r σ) := xr_astore_n dX7_now_8
theorem eX7_now_9 : wX7_now B ad K 9 L r σ ↔ ∃ v, L[1]? = some (.int v) ∧ wX7_now B ad K 10 L (.int v :: r) σ := xr_iload_n dX7_now_9
theorem eX7_now_80 : wX7_now B ad K 80 L r σ ↔ ∃ v, L[0]? = some v ∧ x_rfv v ∧ wX7_now B ad K 81 L (v :: r) σ := xr_aload_n dX7_now_80
theorem eX7_now_81 {a : Nat} : wX7_now B ad K 81 L (.ref a :: r) σ ↔ ∃ fs v, σ.1 a = some (7, fs) ∧ fs[7]? = some v ∧ wX7_now B ad K 84 L (v :: r) σ := xr_getfield (t := 7) (j := 7) dX7_now_81 rfl
theorem eX7_now_84 {a : Nat} : wX7_now B ad K 84 L (.ref a :: r) σ ↔ ∃ fs v, σ.1 a = some (1, fs) ∧ fs[2]? = some v ∧ wX7_now B ad K 87 L (v :: r) σ := xr_getfield (t := 1) (j := 2) dX7_now_84 rfl
theorem eX7_now_87 {x : Int32} : wX7_now B ad K 87 L (.int x :: r) σ ↔ wX7_now B ad K 88 L (.long x.toInt64 :: r) σ := xr_i2l dX7_now_87
theorem eX7_now_88 {x : Int64} : wX7_now B ad K 88 L [.long x] σ ↔ K (some (.long x)) σ := xr_lreturn dX7_now_88
theorem eX7_now_89 : wX7_now B ad K 89 L r σ ↔ ∃ v, L[0]? = some v ∧ x_rfv v ∧ wX7_now B ad K 90 L (v :: r) σ := xr_aload_n dX7_now_89
theorem eX7_now_90 {a : Nat} : wX7_now B ad K 90 L (.ref a :: r) σ ↔ ∃ fs v, σ.1 a = some (7, fs) ∧ fs[7]? = some v ∧ wX7_now B ad K 93 L (v :: r) σ := xr_getfield (t := 7) (j := 7) dX7_now_90 rfl
theorem eX7_now_93 {a : Nat} : wX7_now B ad K 93 L (.ref a :: r) σ ↔ ∃ fs v, σ.1 a = some (1, fs) ∧ fs[10]? = some v ∧ wX7_now B ad K 96 L (v :: r) σ := xr_getfield (t := 1) (j := 10) dX7_now_93 rfl
theorem eX7_now_96 {x : Int64} : wX7_now B ad K 96 L [.long x] σ ↔ K (some (.long x)) σ := xr_lreturn dX7_now_96
theorem eX7_now_97 : wX7_now B ad K 97 L r σ ↔ ∃ v, L[0]? = some v ∧ x_rfv v ∧ wX7_now B ad K 98 L (v :: r) σ := xr_aload_n dX7_now_97
theorem eX7_now_98 {a : Nat} : wX7_now B ad K 98 L (.ref a :: r) σ ↔ ∃ fs v, σ.1 a = some (7, fs) ∧ fs[7]? = some v ∧ wX7_now B ad K 101 L (v :: r) σ := xr_getfield (t := 7) (j := 7) dX7_now_98 rfl
theorem eX7_now_101 {a : Nat} : wX7_now B ad K 101 L (.ref a :: r) σ ↔ ∃ fs v, σ.1 a = some (1, fs) ∧ fs[9]? = some v ∧ wX7_now B ad K 104 L (v :: r) σ := xr_getfield (t := 1) (j := 9) dX7_now_101 rfl
theorem eX7_now_104 {x : Int64} : wX7_now B ad K 104 L [.long x] σ ↔ K (some (.long x)) σ := xr_lreturn dX7_now_104
theorem eX7_now_105 : wX7_now B ad K 105 L r σ ↔ ∃ v, L[0]? = some v ∧ x_rfv v ∧ wX7_now B ad K 106 L (v :: r) σ := xr_aload_n dX7_now_105
theorem eX7_now_106 {a : Nat} : wX7_now B ad K 106 L (.ref a :: r) σ ↔ ∃ fs v, σ.1 a = some (7, fs) ∧ fs[6]? = some v ∧ wX7_now B ad K 109 L (v :: r) σ := xr_getfield (t := 7) (j := 6) dX7_now_106 rfl
theorem eX7_now_109 {a : Nat} : wX7_now B ad K 109 L (.ref a :: r) σ ↔ ∃ fs v, σ.1 a = some (4, fs) ∧ fs[2]? = some v ∧ wX7_now B ad K 112 L (v :: r) σ := xr_getfield (t := 4) (j := 2) dX7_now_109 rfl
theorem eX7_now_112 {x : Int32} : wX7_now B ad K 112 L (.int x :: r) σ ↔ wX7_now B ad K 113 L (.long x.toInt64 :: r) σ := xr_i2l dX7_now_112
theorem eX7_now_113 {x : Int64} : wX7_now B ad K 113 L [.long x] σ ↔ K (some (.long x)) σ := xr_lreturn dX7_now_113
theorem eX7_now_114 : wX7_now B ad K 114 L r σ ↔ ∃ v, L[2]? = some v ∧ x_rfv v ∧ wX7_now B ad K 115 L (v :: r) σ := xr_aload_n dX7_now_114
theorem eX7_now_115 {v : Value} : wX7_now B ad K 115 L (v :: r) σ ↔ (x_rfv v ∧ (if v = .null then wX7_now B ad K 118 L r σ else wX7_now B ad K 124 L r σ)) := (xr_ifnonnull dX7_now_115 (by decide)).trans (and_congr_right fun _ => x_ite)
theorem eX7_now_118 : wX7_now B ad K 118 L r σ ↔ wX7_now B ad K 121 L (.long (-1) :: r) σ := xr_ldc2 dX7_now_118 rfl
theorem eX7_now_121 : wX7_now B ad K 121 L r σ ↔ wX7_now B ad K 129 L r σ := xr_goto dX7_now_121 (by decide)
theorem eX7_now_124 : wX7_now B ad K 124 L r σ ↔ ∃ v, L[2]? = some v ∧ x_rfv v ∧ wX7_now B ad K 125 L (v :: r) σ := xr_aload_n dX7_now_124
theorem eX7_now_125 {a : Nat} : wX7_now B ad K 125 L (.ref a :: r) σ ↔ ∃ fs v, σ.1 a = some (3, fs) ∧ fs[0]? = some v ∧ wX7_now B ad K 128 L (v :: r) σ := xr_getfield (t := 3) (j := 0) dX7_now_125 rfl
theorem eX7_now_128 {x : Int32} : wX7_now B ad K 128 L (.int x :: r) σ ↔ wX7_now B ad K 129 L (.long x.toInt64 :: r) σ := xr_i2l dX7_now_128
theorem eX7_now_129 {x : Int64} : wX7_now B ad K 129 L [.long x] σ ↔ K (some (.long x)) σ := xr_lreturn dX7_now_129
theorem eX7_now_130 : wX7_now B ad K 130 L r σ ↔ ∃ v, L[2]? = some v ∧ x_rfv v ∧ wX7_now B ad K 131 L (v :: r) σ := xr_aload_n dX7_now_130
theorem eX7_now_131 {v : Value} : wX7_now B ad K 131 L (v :: r) σ ↔ (x_rfv v ∧ (if v = .null then wX7_now B ad K 134 L r σ else wX7_now B ad K 138 L r σ)) := (xr_ifnonnull dX7_now_131 (by decide)).trans (and_congr_right fun _ => x_ite)
theorem eX7_now_134 : wX7_now B ad K 134 L r σ ↔ wX7_now B ad K 135 L (.long 0 :: r) σ := xr_lconst dX7_now_134 (by decide)
theorem eX7_now_135 : wX7_now B ad K 135 L r σ ↔ wX7_now B ad K 143 L r σ := xr_goto dX7_now_135 (by decide)
theorem eX7_now_138 : wX7_now B ad K 138 L r σ ↔ ∃ v, L[2]? = some v ∧ x_rfv v ∧ wX7_now B ad K 139 L (v :: r) σ := xr_aload_n dX7_now_138
theorem eX7_now_139 {a : Nat} : wX7_now B ad K 139 L (.ref a :: r) σ ↔ ∃ fs v, σ.1 a = some (3, fs) ∧ fs[9]? = some v ∧ wX7_now B ad K 142 L (v :: r) σ := xr_getfield (t := 3) (j := 9) dX7_now_139 rfl
theorem eX7_now_142 {x : Int32} : wX7_now B ad K 142 L (.int x :: r) σ ↔ wX7_now B ad K 143 L (.long x.toInt64 :: r) σ := xr_i2l dX7_now_142
theorem eX7_now_143 {x : Int64} : wX7_now B ad K 143 L [.long x] σ ↔ K (some (.long x)) σ := xr_lreturn dX7_now_143
theorem eX7_now_144 : wX7_now B ad K 144 L r σ ↔ ∃ v, L[0]? = some v ∧ x_rfv v ∧ wX7_now B ad K 145 L (v :: r) σ := xr_aload_n dX7_now_144
theorem eX7_now_145 {a : Nat} : wX7_now B ad K 145 L (.ref a :: r) σ ↔ ∃ fs v, σ.1 a = some (7, fs) ∧ fs[7]? = some v ∧ wX7_now B ad K 148 L (v :: r) σ := xr_getfield (t := 7) (j := 7) dX7_now_145 rfl
theorem eX7_now_148 {a : Nat} : wX7_now B ad K 148 L (.ref a :: r) σ ↔ ∃ fs v, σ.1 a = some (1, fs) ∧ fs[6]? = some v ∧ wX7_now B ad K 151 L (v :: r) σ := xr_getfield (t := 1) (j := 6) dX7_now_148 rfl
theorem eX7_now_151 : wX7_now B ad K 151 L r σ ↔ ∃ v, L[1]? = some (.int v) ∧ wX7_now B ad K 152 L (.int v :: r) σ := xr_iload_n dX7_now_151
theorem eX7_now_152 {v0 v1 : Value} : wX7_now B ad K 152 L (v1 :: v0 :: r) σ ↔ ((r.map fun v => v.category).sum ≤ 8 ∧ x_cl (x_v 5 (eX5_entry B ad)) [v0, v1] σ (fun v g => wX7_now B ad K 155 L (v.toList ++ r) g)) := xr_callV [v0, v1] r dX7_now_152 rfl
theorem eX7_now_155 {x : Int64} : wX7_now B ad K 155 L [.long x] σ ↔ K (some (.long x)) σ := xr_lreturn dX7_now_155
end
abbrev wX7_badness (B : Nat) (ad : Nat → Nat) (K : xK) : Nat → List Value → List Value → xW → Prop := x_WP B (some .int) (cxX7_badness B ad) cX7_badness K
section
variable {B : Nat} {ad : Nat → Nat} {K : xK} {L r : List Value} {σ : xW}
theorem eX7_badness_0 : wX7_badness B ad K 0 L r σ ↔ ∃ v, L[1]? = some (.int v) ∧ wX7_badness B ad K 1 L (.int v :: r) σ := xr_iload_n dX7_badness_0
theorem eX7_badness_1 {x : Int32} : wX7_badness B ad K 1 L (.int x :: r) σ ↔ (if x.toInt < 0 then wX7_badness B ad K 8 L r σ else wX7_badness B ad K 4 L r σ) := (xr_if_lt dX7_badness_1 (by decide)).trans x_ite
theorem eX7_badness_4 : wX7_badness B ad K 4 L r σ ↔ ∃ v, L[2]? = some (.int v) ∧ wX7_badness B ad K 5 L (.int v :: r) σ := xr_iload_n dX7_badness_4
theorem eX7_badness_5 {x : Int32} : wX7_badness B ad K 5 L (.int x :: r) σ ↔ (if x.toInt < 0 then wX7_badness B ad K 8 L r σ else wX7_badness B ad K 10 L r σ) := (xr_if_ge dX7_badness_5 (by decide)).trans x_ite
theorem eX7_badness_8 : wX7_badness B ad K 8 L r σ ↔ wX7_badness B ad K 9 L (.int (-1) :: r) σ := xr_iconst dX7_badness_8 (by decide)
theorem eX7_badness_9 {x : Int32} : wX7_badness B ad K 9 L [.int x] σ ↔ K (some (.int x)) σ := xr_ireturn dX7_badness_9
theorem eX7_badness_10 : wX7_badness B ad K 10 L r σ ↔ ∃ v, L[1]? = some (.int v) ∧ wX7_badness B ad K 11 L (.int v :: r) σ := xr_iload_n dX7_badness_10
theorem eX7_badness_11 {x : Int32} : wX7_badness B ad K 11 L (.int x :: r) σ ↔ wX7_badness B ad K 12 L (.long x.toInt64 :: r) σ := xr_i2l dX7_badness_11
theorem eX7_badness_12 : wX7_badness B ad K 12 L r σ ↔ ∃ v, L[2]? = some (.int v) ∧ wX7_badness B ad K 13 L (.int v :: r) σ := xr_iload_n dX7_badness_12
theorem eX7_badness_13 {x : Int32} : wX7_badness B ad K 13 L (.int x :: r) σ ↔ wX7_badness B ad K 14 L (.long x.toInt64 :: r) σ := xr_i2l dX7_badness_13
theorem eX7_badness_14 {v0 v1 : Value} : wX7_badness B ad K 14 L (v1 :: v0 :: r) σ ↔ ((r.map fun v => v.category).sum ≤ 8 ∧ x_cl (eX7_badnessOf B ad) [v0, v1] σ (fun v g => wX7_badness B ad K 17 L (v.toList ++ r) g)) := xr_callS [v0, v1] r dX7_badness_14 rfl
theorem eX7_badness_17 {x : Int32} : wX7_badness B ad K 17 L [.int x] σ ↔ K (some (.int x)) σ := xr_ireturn dX7_badness_17
end
abbrev wX7_count (B : Nat) (ad : Nat → Nat) (K : xK) : Nat → List Value → List Value → xW → Prop := x_WP B (some .int) (cxX7_count B ad) cX7_count K
section
variable {B : Nat} {ad : Nat → Nat} {K : xK} {L r : List Value} {σ : xW}
theorem eX7_count_0 : wX7_count B ad K 0 L r σ ↔ ∃ v, L[1]? = some (.int v) ∧ wX7_count B ad K 1 L (.int v :: r) σ := xr_iload_n dX7_count_0
theorem eX7_count_28 : wX7_count B ad K 28 L r σ ↔ ∃ v, L[0]? = some v ∧ x_rfv v ∧ wX7_count B ad K 29 L (v :: r) σ := xr_aload_n dX7_count_28
theorem eX7_count_29 {a : Nat} : wX7_count B ad K 29 L (.ref a :: r) σ ↔ ∃ fs v, σ.1 a = some (7, fs) ∧ fs[1]? = some v ∧ wX7_count B ad K 32 L (v :: r) σ := xr_getfield (t := 7) (j := 1) dX7_count_29 rfl
theorem eX7_count_32 {x : Int32} : wX7_count B ad K 32 L [.int x] σ ↔ K (some (.int x)) σ := xr_ireturn dX7_count_32
theorem eX7_count_33 : wX7_count B ad K 33 L r σ ↔ ∃ v, L[0]? = some v ∧ x_rfv v ∧ wX7_count B ad K 34 L (v :: r) σ := xr_aload_n dX7_count_33
theorem eX7_count_34 {a : Nat} : wX7_count B ad K 34 L (.ref a :: r) σ ↔ ∃ fs v, σ.1 a = some (7, fs) ∧ fs[3]? = some v ∧ wX7_count B ad K 37 L (v :: r) σ := xr_getfield (t := 7) (j := 3) dX7_count_34 rfl
theorem eX7_count_37 {x : Int32} : wX7_count B ad K 37 L [.int x] σ ↔ K (some (.int x)) σ := xr_ireturn dX7_count_37
theorem eX7_count_38 : wX7_count B ad K 38 L r σ ↔ ∃ v, L[0]? = some v ∧ x_rfv v ∧ wX7_count B ad K 39 L (v :: r) σ := xr_aload_n dX7_count_38
theorem eX7_count_39 {a : Nat} : wX7_count B ad K 39 L (.ref a :: r) σ ↔ ∃ fs v, σ.1 a = some (7, fs) ∧ fs[5]? = some v ∧ wX7_count B ad K 42 L (v :: r) σ := xr_getfield (t := 7) (j := 5) dX7_count_39 rfl
theorem eX7_count_42 {x : Int32} : wX7_count B ad K 42 L [.int x] σ ↔ K (some (.int x)) σ := xr_ireturn dX7_count_42
theorem eX7_count_43 : wX7_count B ad K 43 L r σ ↔ wX7_count B ad K 44 L (.int (-1) :: r) σ := xr_iconst dX7_count_43 (by decide)
theorem eX7_count_44 {x : Int32} : wX7_count B ad K 44 L [.int x] σ ↔ K (some (.int x)) σ := xr_ireturn dX7_count_44
end
abbrev wX7_tallyPages (B : Nat) (ad : Nat → Nat) (K : xK) : Nat → List Value → List Value → xW → Prop := x_WP B none (cxX7_tallyPages B ad) cX7_tallyPages K
section
variable {B : Nat} {ad : Nat → Nat} {K : xK} {L r : List Value} {σ : xW}
theorem eX7_tallyPages_0 : wX7_tallyPages B ad K 0 L r σ ↔ wX7_tallyPages B ad K 1 L (.int 0 :: r) σ := xr_iconst dX7_tallyPages_0 (by decide)
theorem eX7_tallyPages_1 {v : Int32} : wX7_tallyPages B ad K 1 L (.int v :: r) σ ↔ (1 < L.length ∧ x_nl L 1 ∧ wX7_tallyPages B ad K 2 (L.set 1 (.int v)) r σ) := xr_istore_n dX7_tallyPages_1
theorem eX7_tallyPages_2 : wX7_tallyPages B ad K 2 L r σ ↔ ∃ v, L[1]? = some (.int v) ∧ wX7_tallyPages B ad K 3 L (.int v :: r) σ := xr_iload_n dX7_tallyPages_2
theorem eX7_tallyPages_3 : wX7_tallyPages B ad K 3 L r σ ↔ ∃ v, L[0]? = some v ∧ x_rfv v ∧ wX7_tallyPages B ad K 4 L (v :: r) σ := xr_aload_n dX7_tallyPages_3
theorem eX7_tallyPages_4 {a : Nat} : wX7_tallyPages B ad K 4 L (.ref a :: r) σ ↔ ∃ fs v, σ.1 a = some (7, fs) ∧ fs[5]? = some v ∧ wX7_tallyPages B ad K 7 L (v :: r) σ := xr_getfield (t := 7) (j := 5) dX7_tallyPages_4 rfl
theorem eX7_tallyPages_7 {x y : Int32} : wX7_tallyPages B ad K 7 L (.int y :: .int x :: r) σ ↔ (if x.toInt < y.toInt then wX7_tallyPages B ad K 10 L r σ else wX7_tallyPages B ad K 79 L r σ) := (xr_icmp_ge dX7_tallyPages_7 (by decide)).trans x_ite
theorem eX7_tallyPages_10 : wX7_tallyPages B ad K 10 L r σ ↔ ∃ v, L[0]? = some v ∧ x_rfv v ∧ wX7_tallyPages B ad K 11 L (v :: r) σ := xr_aload_n dX7_tallyPages_10
theorem eX7_tallyPages_11 {a : Nat} : wX7_tallyPages B ad K 11 L (.ref a :: r) σ ↔ ∃ fs v, σ.1 a = some (7, fs) ∧ fs[4]? = some v ∧ wX7_tallyPages B ad K 14 L (v :: r) σ := xr_getfield (t := 7) (j := 4) dX7_tallyPages_11 rfl
theorem eX7_tallyPages_14 : wX7_tallyPages B ad K 14 L r σ ↔ ∃ v, L[1]? = some (.int v) ∧ wX7_tallyPages B ad K 15 L (.int v :: r) σ := xr_iload_n dX7_tallyPages_14
theorem eX7_tallyPages_15 {a : Nat} {x : Int32} : wX7_tallyPages B ad K 15 L (.int x :: .ref a :: r) σ ↔ ∃ t V v, σ.1 a = some (t, V) ∧ (t = 103 ∨ t = 104 ∨ t = 105) ∧ x_ix x V = some v ∧ wX7_tallyPages B ad K 16 L (v :: r) σ := xr_aaload dX7_tallyPages_15
theorem eX7_tallyPages_16 {v : Value} : wX7_tallyPages B ad K 16 L (v :: r) σ ↔ (x_rfv v ∧ 2 < L.length ∧ x_nl L 2 ∧ wX7_tallyPages B ad K 17 (L.set 2 v) r σ) := xr_astore_n dX7_tallyPages_16
theorem eX7_tallyPages_17 : wX7_tallyPages B ad K 17 L r σ ↔ wX7_tallyPages B ad K 18 L (.int 0 :: r) σ := xr_iconst dX7_tallyPages_17 (by decide)
theorem eX7_tallyPages_18 {v : Int32} : wX7_tallyPages B ad K 18 L (.int v :: r) σ ↔ (3 < L.length ∧ x_nl L 3 ∧ wX7_tallyPages B ad K 19 (L.set 3 (.int v)) r σ) := xr_istore_n dX7_tallyPages_18
theorem eX7_tallyPages_19 : wX7_tallyPages B ad K 19 L r σ ↔ ∃ v, L[3]? = some (.int v) ∧ wX7_tallyPages B ad K 20 L (.int v :: r) σ := xr_iload_n dX7_tallyPages_19
theorem eX7_tallyPages_20 : wX7_tallyPages B ad K 20 L r σ ↔ ∃ v, L[2]? = some v ∧ x_rfv v ∧ wX7_tallyPages B ad K 21 L (v :: r) σ := xr_aload_n dX7_tallyPages_20
theorem eX7_tallyPages_21 {a : Nat} : wX7_tallyPages B ad K 21 L (.ref a :: r) σ ↔ ∃ fs v, σ.1 a = some (6, fs) ∧ fs[0]? = some v ∧ wX7_tallyPages B ad K 24 L (v :: r) σ := xr_getfield (t := 6) (j := 0) dX7_tallyPages_21 rfl
theorem eX7_tallyPages_24 {a : Nat} : wX7_tallyPages B ad K 24 L (.ref a :: r) σ ↔ ∃ t V, σ.1 a = some (t, V) ∧ 100 ≤ t ∧ t ≤ 106 ∧ wX7_tallyPages B ad K 25 L (.int (Int32.ofNat V.length) :: r) σ := xr_alen dX7_tallyPages_24
theorem eX7_tallyPages_25 {x y : Int32} : wX7_tallyPages B ad K 25 L (.int y :: .int x :: r) σ ↔ (if x.toInt < y.toInt then wX7_tallyPages B ad K 28 L r σ else wX7_tallyPages B ad K 73 L r σ) := (xr_icmp_ge dX7_tallyPages_25 (by decide)).trans x_ite
theorem eX7_tallyPages_28 : wX7_tallyPages B ad K 28 L r σ ↔ ∃ v, L[2]? = some v ∧ x_rfv v ∧ wX7_tallyPages B ad K 29 L (v :: r) σ := xr_aload_n dX7_tallyPages_28
theorem eX7_tallyPages_29 {a : Nat} : wX7_tallyPages B ad K 29 L (.ref a :: r) σ ↔ ∃ fs v, σ.1 a = some (6, fs) ∧ fs[0]? = some v ∧ wX7_tallyPages B ad K 32 L (v :: r) σ := xr_getfield (t := 6) (j := 0) dX7_tallyPages_29 rfl
theorem eX7_tallyPages_32 : wX7_tallyPages B ad K 32 L r σ ↔ ∃ v, L[3]? = some (.int v) ∧ wX7_tallyPages B ad K 33 L (.int v :: r) σ := xr_iload_n dX7_tallyPages_32
theorem eX7_tallyPages_33 {a : Nat} {x : Int32} : wX7_tallyPages B ad K 33 L (.int x :: .ref a :: r) σ ↔ ∃ t V v, σ.1 a = some (t, V) ∧ (t = 100 ∨ t = 106) ∧ x_ix x V = some v ∧ wX7_tallyPages B ad K 34 L (v :: r) σ := xr_iaload dX7_tallyPages_33
theorem eX7_tallyPages_34 {v : Int32} : wX7_tallyPages B ad K 34 L (.int v :: r) σ ↔ (4 < L.length ∧ x_nl L 4 ∧ wX7_tallyPages B ad K 36 (L.set 4 (.int v)) r σ) := xr_istore dX7_tallyPages_34
theorem eX7_tallyPages_36 : wX7_tallyPages B ad K 36 L r σ ↔ ∃ v, L[4]? = some (.int v) ∧ wX7_tallyPages B ad K 38 L (.int v :: r) σ := xr_iload dX7_tallyPages_36
theorem eX7_tallyPages_38 : wX7_tallyPages B ad K 38 L r σ ↔ wX7_tallyPages B ad K 39 L (.int 0 :: r) σ := xr_iconst dX7_tallyPages_38 (by decide)
theorem eX7_tallyPages_39 : wX7_tallyPages B ad K 39 L r σ ↔ ∃ v, L[0]? = some v ∧ x_rfv v ∧ wX7_tallyPages B ad K 40 L (v :: r) σ := xr_aload_n dX7_tallyPages_39
theorem eX7_tallyPages_40 {a : Nat} : wX7_tallyPages B ad K 40 L (.ref a :: r) σ ↔ ∃ fs v, σ.1 a = some (7, fs) ∧ fs[1]? = some v ∧ wX7_tallyPages B ad K 43 L (v :: r) σ := xr_getfield (t := 7) (j := 1) dX7_tallyPages_40 rfl
theorem eX7_tallyPages_43 : wX7_tallyPages B ad K 43 L r σ ↔ wX7_tallyPages B ad K 44 L (.int 1 :: r) σ := xr_iconst dX7_tallyPages_43 (by decide)
theorem eX7_tallyPages_44 {x y : Int32} : wX7_tallyPages B ad K 44 L (.int y :: .int x :: r) σ ↔ wX7_tallyPages B ad K 45 L (.int (x - y) :: r) σ := xr_isub dX7_tallyPages_44
theorem eX7_tallyPages_45 {v0 v1 v2 : Value} : wX7_tallyPages B ad K 45 L (v2 :: v1 :: v0 :: r) σ ↔ ((r.map fun v => v.category).sum ≤ 8 ∧ x_cl (eX7_within B ad) [v0, v1, v2] σ (fun v g => wX7_tallyPages B ad K 48 L (v.toList ++ r) g)) := xr_callS [v0, v1, v2] r dX7_tallyPages_45 rfl
theorem eX7_tallyPages_48 {x : Int32} : wX7_tallyPages B ad K 48 L (.int x :: r) σ ↔ (if x = 0 then wX7_tallyPages B ad K 67 L r σ else wX7_tallyPages B ad K 51 L r σ) := (xr_if_eq dX7_tallyPages_48 (by decide)).trans x_ite
theorem eX7_tallyPages_51 : wX7_tallyPages B ad K 51 L r σ ↔ ∃ v, L[0]? = some v ∧ x_rfv v ∧ wX7_tallyPages B ad K 52 L (v :: r) σ := xr_aload_n dX7_tallyPages_51
theorem eX7_tallyPages_52 {a : Nat} : wX7_tallyPages B ad K 52 L (.ref a :: r) σ ↔ ∃ fs v, σ.1 a = some (7, fs) ∧ fs[0]? = some v ∧ wX7_tallyPages B ad K 55 L (v :: r) σ := xr_getfield (t := 7) (j := 0) dX7_tallyPages_52 rfl
theorem eX7_tallyPages_55 : wX7_tallyPages B ad K 55 L r σ ↔ ∃ v, L[4]? = some (.int v) ∧ wX7_tallyPages B ad K 57 L (.int v :: r) σ := xr_iload dX7_tallyPages_55
theorem eX7_tallyPages_57 {a : Nat} {x : Int32} : wX7_tallyPages B ad K 57 L (.int x :: .ref a :: r) σ ↔ ∃ t V v, σ.1 a = some (t, V) ∧ (t = 103 ∨ t = 104 ∨ t = 105) ∧ x_ix x V = some v ∧ wX7_tallyPages B ad K 58 L (v :: r) σ := xr_aaload dX7_tallyPages_57
theorem eX7_tallyPages_58 : wX7_tallyPages B ad K 58 L r σ ↔ ∃ v, L[2]? = some v ∧ x_rfv v ∧ wX7_tallyPages B ad K 59 L (v :: r) σ := xr_aload_n dX7_tallyPages_58
theorem eX7_tallyPages_59 {a : Nat} : wX7_tallyPages B ad K 59 L (.ref a :: r) σ ↔ ∃ fs v, σ.1 a = some (6, fs) ∧ fs[1]? = some v ∧ wX7_tallyPages B ad K 62 L (v :: r) σ := xr_getfield (t := 6) (j := 1) dX7_tallyPages_59 rfl
theorem eX7_tallyPages_62 : wX7_tallyPages B ad K 62 L r σ ↔ ∃ v, L[3]? = some (.int v) ∧ wX7_tallyPages B ad K 63 L (.int v :: r) σ := xr_iload_n dX7_tallyPages_62
theorem eX7_tallyPages_63 {a : Nat} {x : Int32} : wX7_tallyPages B ad K 63 L (.int x :: .ref a :: r) σ ↔ ∃ t V v, σ.1 a = some (t, V) ∧ (t = 100 ∨ t = 106) ∧ x_ix x V = some v ∧ wX7_tallyPages B ad K 64 L (v :: r) σ := xr_iaload dX7_tallyPages_63
theorem eX7_tallyPages_64 {v0 v1 : Value} : wX7_tallyPages B ad K 64 L (v1 :: v0 :: r) σ ↔ ((r.map fun v => v.category).sum ≤ 8 ∧ x_cl (x_v 3 (eX2_tallyOnPage B ad)) [v0, v1] σ (fun v g => wX7_tallyPages B ad K 67 L (v.toList ++ r) g)) := xr_callV [v0, v1] r dX7_tallyPages_64 rfl
theorem eX7_tallyPages_67 : wX7_tallyPages B ad K 67 L r σ ↔ ∃ v, L[3]? = some (.int v) ∧ x_nl L 3 ∧ wX7_tallyPages B ad K 70 (L.set 3 (.int (v + 1))) r σ := xr_iinc dX7_tallyPages_67 (by decide)
theorem eX7_tallyPages_70 : wX7_tallyPages B ad K 70 L r σ ↔ wX7_tallyPages B ad K 19 L r σ := xr_goto dX7_tallyPages_70 (by decide)
theorem eX7_tallyPages_73 : wX7_tallyPages B ad K 73 L r σ ↔ ∃ v, L[1]? = some (.int v) ∧ x_nl L 1 ∧ wX7_tallyPages B ad K 76 (L.set 1 (.int (v + 1))) r σ := xr_iinc dX7_tallyPages_73 (by decide)
theorem eX7_tallyPages_76 : wX7_tallyPages B ad K 76 L r σ ↔ wX7_tallyPages B ad K 2 L r σ := xr_goto dX7_tallyPages_76 (by decide)
theorem eX7_tallyPages_79 : wX7_tallyPages B ad K 79 L [] σ ↔ K none σ := xr_return dX7_tallyPages_79
end
abbrev wX7_check (B : Nat) (ad : Nat → Nat) (K : xK) : Nat → List Value → List Value → xW → Prop := x_WP B (some .int) (cxX7_check B ad) cX7_check K
section
variable {B : Nat} {ad : Nat → Nat} {K : xK} {L r : List Value} {σ : xW}
theorem eX7_check_0 : wX7_check B ad K 0 L r σ ↔ wX7_check B ad K 1 L (.int 0 :: r) σ := xr_iconst dX7_check_0 (by decide)
theorem eX7_check_1 {v : Int32} : wX7_check B ad K 1 L (.int v :: r) σ ↔ (1 < L.length ∧ x_nl L 1 ∧ wX7_check B ad K 2 (L.set 1 (.int v)) r σ) := xr_istore_n dX7_check_1
theorem eX7_check_2 : wX7_check B ad K 2 L r σ ↔ ∃ v, L[1]? = some (.int v) ∧ wX7_check B ad K 3 L (.int v :: r) σ := xr_iload_n dX7_check_2
theorem eX7_check_3 : wX7_check B ad K 3 L r σ ↔ ∃ v, L[0]? = some v ∧ x_rfv v ∧ wX7_check B ad K 4 L (v :: r) σ := xr_aload_n dX7_check_3
theorem eX7_check_4 {a : Nat} : wX7_check B ad K 4 L (.ref a :: r) σ ↔ ∃ fs v, σ.1 a = some (7, fs) ∧ fs[1]? = some v ∧ wX7_check B ad K 7 L (v :: r) σ := xr_getfield (t := 7) (j := 1) dX7_check_4 rfl
theorem eX7_check_7 {x y : Int32} : wX7_check B ad K 7 L (.int y :: .int x :: r) σ ↔ (if x.toInt < y.toInt then wX7_check B ad K 10 L r σ else wX7_check B ad K 25 L r σ) := (xr_icmp_ge dX7_check_7 (by decide)).trans x_ite
theorem eX7_check_10 : wX7_check B ad K 10 L r σ ↔ ∃ v, L[0]? = some v ∧ x_rfv v ∧ wX7_check B ad K 11 L (v :: r) σ := xr_aload_n dX7_check_10
theorem eX7_check_11 {a : Nat} : wX7_check B ad K 11 L (.ref a :: r) σ ↔ ∃ fs v, σ.1 a = some (7, fs) ∧ fs[0]? = some v ∧ wX7_check B ad K 14 L (v :: r) σ := xr_getfield (t := 7) (j := 0) dX7_check_11 rfl
theorem eX7_check_14 : wX7_check B ad K 14 L r σ ↔ ∃ v, L[1]? = some (.int v) ∧ wX7_check B ad K 15 L (.int v :: r) σ := xr_iload_n dX7_check_14
theorem eX7_check_15 {a : Nat} {x : Int32} : wX7_check B ad K 15 L (.int x :: .ref a :: r) σ ↔ ∃ t V v, σ.1 a = some (t, V) ∧ (t = 103 ∨ t = 104 ∨ t = 105) ∧ x_ix x V = some v ∧ wX7_check B ad K 16 L (v :: r) σ := xr_aaload dX7_check_15
theorem eX7_check_16 {v0 : Value} : wX7_check B ad K 16 L (v0 :: r) σ ↔ ((r.map fun v => v.category).sum ≤ 8 ∧ x_cl (x_v 3 (eX2_startTally B ad)) [v0] σ (fun v g => wX7_check B ad K 19 L (v.toList ++ r) g)) := xr_callV [v0] r dX7_check_16 rfl
theorem eX7_check_19 : wX7_check B ad K 19 L r σ ↔ ∃ v, L[1]? = some (.int v) ∧ x_nl L 1 ∧ wX7_check B ad K 22 (L.set 1 (.int (v + 1))) r σ := xr_iinc dX7_check_19 (by decide)
theorem eX7_check_22 : wX7_check B ad K 22 L r σ ↔ wX7_check B ad K 2 L r σ := xr_goto dX7_check_22 (by decide)
theorem eX7_check_25 : wX7_check B ad K 25 L r σ ↔ ∃ v, L[0]? = some v ∧ x_rfv v ∧ wX7_check B ad K 26 L (v :: r) σ := xr_aload_n dX7_check_25
theorem eX7_check_26 {v0 : Value} : wX7_check B ad K 26 L (v0 :: r) σ ↔ ((r.map fun v => v.category).sum ≤ 8 ∧ x_cl (x_v 7 (eX7_tallyPages B ad)) [v0] σ (fun v g => wX7_check B ad K 29 L (v.toList ++ r) g)) := xr_callV [v0] r dX7_check_26 rfl
theorem eX7_check_29 : wX7_check B ad K 29 L r σ ↔ wX7_check B ad K 30 L (.int 0 :: r) σ := xr_iconst dX7_check_29 (by decide)
theorem eX7_check_30 {v : Int32} : wX7_check B ad K 30 L (.int v :: r) σ ↔ (1 < L.length ∧ x_nl L 1 ∧ wX7_check B ad K 31 (L.set 1 (.int v)) r σ) := xr_istore_n dX7_check_30
theorem eX7_check_31 : wX7_check B ad K 31 L r σ ↔ ∃ v, L[1]? = some (.int v) ∧ wX7_check B ad K 32 L (.int v :: r) σ := xr_iload_n dX7_check_31
theorem eX7_check_32 : wX7_check B ad K 32 L r σ ↔ ∃ v, L[0]? = some v ∧ x_rfv v ∧ wX7_check B ad K 33 L (v :: r) σ := xr_aload_n dX7_check_32
theorem eX7_check_33 {a : Nat} : wX7_check B ad K 33 L (.ref a :: r) σ ↔ ∃ fs v, σ.1 a = some (7, fs) ∧ fs[7]? = some v ∧ wX7_check B ad K 36 L (v :: r) σ := xr_getfield (t := 7) (j := 7) dX7_check_33 rfl
theorem eX7_check_36 {a : Nat} : wX7_check B ad K 36 L (.ref a :: r) σ ↔ ∃ fs v, σ.1 a = some (1, fs) ∧ fs[2]? = some v ∧ wX7_check B ad K 39 L (v :: r) σ := xr_getfield (t := 1) (j := 2) dX7_check_36 rfl
theorem eX7_check_39 {x y : Int32} : wX7_check B ad K 39 L (.int y :: .int x :: r) σ ↔ (if x.toInt < y.toInt then wX7_check B ad K 42 L r σ else wX7_check B ad K 66 L r σ) := (xr_icmp_ge dX7_check_39 (by decide)).trans x_ite
theorem eX7_check_42 : wX7_check B ad K 42 L r σ ↔ ∃ v, L[0]? = some v ∧ x_rfv v ∧ wX7_check B ad K 43 L (v :: r) σ := xr_aload_n dX7_check_42
theorem eX7_check_43 {a : Nat} : wX7_check B ad K 43 L (.ref a :: r) σ ↔ ∃ fs v, σ.1 a = some (7, fs) ∧ fs[7]? = some v ∧ wX7_check B ad K 46 L (v :: r) σ := xr_getfield (t := 7) (j := 7) dX7_check_43 rfl
theorem eX7_check_46 {a : Nat} : wX7_check B ad K 46 L (.ref a :: r) σ ↔ ∃ fs v, σ.1 a = some (1, fs) ∧ fs[0]? = some v ∧ wX7_check B ad K 49 L (v :: r) σ := xr_getfield (t := 1) (j := 0) dX7_check_46 rfl
theorem eX7_check_49 : wX7_check B ad K 49 L r σ ↔ ∃ v, L[1]? = some (.int v) ∧ wX7_check B ad K 50 L (.int v :: r) σ := xr_iload_n dX7_check_49
theorem eX7_check_50 {a : Nat} {x : Int32} : wX7_check B ad K 50 L (.int x :: .ref a :: r) σ ↔ ∃ t V v, σ.1 a = some (t, V) ∧ (t = 103 ∨ t = 104 ∨ t = 105) ∧ x_ix x V = some v ∧ wX7_check B ad K 51 L (v :: r) σ := xr_aaload dX7_check_50
theorem eX7_check_51 {v : Value} : wX7_check B ad K 51 L (v :: r) σ ↔ (v.category = 1 ∧ wX7_check B ad K 52 L (v :: v :: r) σ) := xr_dup dX7_check_51
theorem eX7_check_52 {a : Nat} : wX7_check B ad K 52 L (.ref a :: r) σ ↔ ∃ fs v, σ.1 a = some (3, fs) ∧ fs[11]? = some v ∧ wX7_check B ad K 55 L (v :: r) σ := xr_getfield (t := 3) (j := 11) dX7_check_52 rfl
theorem eX7_check_55 : wX7_check B ad K 55 L r σ ↔ wX7_check B ad K 56 L (.int 1 :: r) σ := xr_iconst dX7_check_55 (by decide)
theorem eX7_check_56 {x y : Int32} : wX7_check B ad K 56 L (.int y :: .int x :: r) σ ↔ wX7_check B ad K 57 L (.int (x + y) :: r) σ := xr_iadd dX7_check_56
theorem eX7_check_57 {x : Int32} {a : Nat} : wX7_check B ad K 57 L (.int x :: .ref a :: r) σ ↔ ∃ fs, σ.1 a = some (3, fs) ∧ 11 < fs.length ∧ B ≤ a ∧ wX7_check B ad K 60 L r (x_up σ.1 a (3, fs.set 11 (.int x)), σ.2) := xr_put_i (t := 3) (j := 11) dX7_check_57 rfl (by decide)
theorem eX7_check_60 : wX7_check B ad K 60 L r σ ↔ ∃ v, L[1]? = some (.int v) ∧ x_nl L 1 ∧ wX7_check B ad K 63 (L.set 1 (.int (v + 1))) r σ := xr_iinc dX7_check_60 (by decide)
theorem eX7_check_63 : wX7_check B ad K 63 L r σ ↔ wX7_check B ad K 31 L r σ := xr_goto dX7_check_63 (by decide)
theorem eX7_check_66 : wX7_check B ad K 66 L r σ ↔ wX7_check B ad K 67 L (.int 0 :: r) σ := xr_iconst dX7_check_66 (by decide)
theorem eX7_check_67 {v : Int32} : wX7_check B ad K 67 L (.int v :: r) σ ↔ (1 < L.length ∧ x_nl L 1 ∧ wX7_check B ad K 68 (L.set 1 (.int v)) r σ) := xr_istore_n dX7_check_67
theorem eX7_check_68 : wX7_check B ad K 68 L r σ ↔ ∃ v, L[1]? = some (.int v) ∧ wX7_check B ad K 69 L (.int v :: r) σ := xr_iload_n dX7_check_68
theorem eX7_check_69 : wX7_check B ad K 69 L r σ ↔ ∃ v, L[0]? = some v ∧ x_rfv v ∧ wX7_check B ad K 70 L (v :: r) σ := xr_aload_n dX7_check_69
theorem eX7_check_70 {a : Nat} : wX7_check B ad K 70 L (.ref a :: r) σ ↔ ∃ fs v, σ.1 a = some (7, fs) ∧ fs[6]? = some v ∧ wX7_check B ad K 73 L (v :: r) σ := xr_getfield (t := 7) (j := 6) dX7_check_70 rfl
theorem eX7_check_73 {a : Nat} : wX7_check B ad K 73 L (.ref a :: r) σ ↔ ∃ fs v, σ.1 a = some (4, fs) ∧ fs[2]? = some v ∧ wX7_check B ad K 76 L (v :: r) σ := xr_getfield (t := 4) (j := 2) dX7_check_73 rfl
theorem eX7_check_76 {x y : Int32} : wX7_check B ad K 76 L (.int y :: .int x :: r) σ ↔ (if x.toInt < y.toInt then wX7_check B ad K 79 L r σ else wX7_check B ad K 108 L r σ) := (xr_icmp_ge dX7_check_76 (by decide)).trans x_ite
theorem eX7_check_79 : wX7_check B ad K 79 L r σ ↔ ∃ v, L[0]? = some v ∧ x_rfv v ∧ wX7_check B ad K 80 L (v :: r) σ := xr_aload_n dX7_check_79
theorem eX7_check_80 {a : Nat} : wX7_check B ad K 80 L (.ref a :: r) σ ↔ ∃ fs v, σ.1 a = some (7, fs) ∧ fs[6]? = some v ∧ wX7_check B ad K 83 L (v :: r) σ := xr_getfield (t := 7) (j := 6) dX7_check_80 rfl
theorem eX7_check_83 : wX7_check B ad K 83 L r σ ↔ ∃ v, L[1]? = some (.int v) ∧ wX7_check B ad K 84 L (.int v :: r) σ := xr_iload_n dX7_check_83
theorem eX7_check_84 {v0 v1 : Value} : wX7_check B ad K 84 L (v1 :: v0 :: r) σ ↔ ((r.map fun v => v.category).sum ≤ 8 ∧ x_cl (x_v 4 (eX4_look B ad)) [v0, v1] σ (fun v g => wX7_check B ad K 87 L (v.toList ++ r) g)) := xr_callV [v0, v1] r dX7_check_84 rfl
theorem eX7_check_87 {v : Value} : wX7_check B ad K 87 L (v :: r) σ ↔ (x_rfv v ∧ 2 < L.length ∧ x_nl L 2 ∧ wX7_check B ad K 88 (L.set 2 v) r σ) := xr_astore_n dX7_check_87
theorem eX7_check_88 : wX7_check B ad K 88 L r σ ↔ ∃ v, L[2]? = some v ∧ x_rfv v ∧ wX7_check B ad K 89 L (v :: r) σ := xr_aload_n dX7_check_88
theorem eX7_check_89 {v : Value} : wX7_check B ad K 89 L (v :: r) σ ↔ (x_rfv v ∧ (if v = .null then wX7_check B ad K 102 L r σ else wX7_check B ad K 92 L r σ)) := (xr_ifnull dX7_check_89 (by decide)).trans (and_congr_right fun _ => x_ite)
theorem eX7_check_92 : wX7_check B ad K 92 L r σ ↔ ∃ v, L[2]? = some v ∧ x_rfv v ∧ wX7_check B ad K 93 L (v :: r) σ := xr_aload_n dX7_check_92
theorem eX7_check_93 {v : Value} : wX7_check B ad K 93 L (v :: r) σ ↔ (v.category = 1 ∧ wX7_check B ad K 94 L (v :: v :: r) σ) := xr_dup dX7_check_93
theorem eX7_check_94 {a : Nat} : wX7_check B ad K 94 L (.ref a :: r) σ ↔ ∃ fs v, σ.1 a = some (3, fs) ∧ fs[11]? = some v ∧ wX7_check B ad K 97 L (v :: r) σ := xr_getfield (t := 3) (j := 11) dX7_check_94 rfl
theorem eX7_check_97 : wX7_check B ad K 97 L r σ ↔ wX7_check B ad K 98 L (.int 1 :: r) σ := xr_iconst dX7_check_97 (by decide)
theorem eX7_check_98 {x y : Int32} : wX7_check B ad K 98 L (.int y :: .int x :: r) σ ↔ wX7_check B ad K 99 L (.int (x + y) :: r) σ := xr_iadd dX7_check_98
theorem eX7_check_99 {x : Int32} {a : Nat} : wX7_check B ad K 99 L (.int x :: .ref a :: r) σ ↔ ∃ fs, σ.1 a = some (3, fs) ∧ 11 < fs.length ∧ B ≤ a ∧ wX7_check B ad K 102 L r (x_up σ.1 a (3, fs.set 11 (.int x)), σ.2) := xr_put_i (t := 3) (j := 11) dX7_check_99 rfl (by decide)
theorem eX7_check_102 : wX7_check B ad K 102 L r σ ↔ ∃ v, L[1]? = some (.int v) ∧ x_nl L 1 ∧ wX7_check B ad K 105 (L.set 1 (.int (v + 1))) r σ := xr_iinc dX7_check_102 (by decide)
theorem eX7_check_105 : wX7_check B ad K 105 L r σ ↔ wX7_check B ad K 68 L r σ := xr_goto dX7_check_105 (by decide)
theorem eX7_check_108 : wX7_check B ad K 108 L r σ ↔ wX7_check B ad K 109 L (.int 0 :: r) σ := xr_iconst dX7_check_108 (by decide)
theorem eX7_check_109 {v : Int32} : wX7_check B ad K 109 L (.int v :: r) σ ↔ (1 < L.length ∧ x_nl L 1 ∧ wX7_check B ad K 110 (L.set 1 (.int v)) r σ) := xr_istore_n dX7_check_109
theorem eX7_check_110 : wX7_check B ad K 110 L r σ ↔ ∃ v, L[1]? = some (.int v) ∧ wX7_check B ad K 111 L (.int v :: r) σ := xr_iload_n dX7_check_110
theorem eX7_check_111 : wX7_check B ad K 111 L r σ ↔ ∃ v, L[0]? = some v ∧ x_rfv v ∧ wX7_check B ad K 112 L (v :: r) σ := xr_aload_n dX7_check_111
theorem eX7_check_112 {a : Nat} : wX7_check B ad K 112 L (.ref a :: r) σ ↔ ∃ fs v, σ.1 a = some (7, fs) ∧ fs[1]? = some v ∧ wX7_check B ad K 115 L (v :: r) σ := xr_getfield (t := 7) (j := 1) dX7_check_112 rfl
theorem eX7_check_115 {x y : Int32} : wX7_check B ad K 115 L (.int y :: .int x :: r) σ ↔ (if x.toInt < y.toInt then wX7_check B ad K 118 L r σ else wX7_check B ad K 138 L r σ) := (xr_icmp_ge dX7_check_115 (by decide)).trans x_ite
theorem eX7_check_118 : wX7_check B ad K 118 L r σ ↔ ∃ v, L[0]? = some v ∧ x_rfv v ∧ wX7_check B ad K 119 L (v :: r) σ := xr_aload_n dX7_check_118
theorem eX7_check_119 {a : Nat} : wX7_check B ad K 119 L (.ref a :: r) σ ↔ ∃ fs v, σ.1 a = some (7, fs) ∧ fs[0]? = some v ∧ wX7_check B ad K 122 L (v :: r) σ := xr_getfield (t := 7) (j := 0) dX7_check_119 rfl
theorem eX7_check_122 : wX7_check B ad K 122 L r σ ↔ ∃ v, L[1]? = some (.int v) ∧ wX7_check B ad K 123 L (.int v :: r) σ := xr_iload_n dX7_check_122
theorem eX7_check_123 {a : Nat} {x : Int32} : wX7_check B ad K 123 L (.int x :: .ref a :: r) σ ↔ ∃ t V v, σ.1 a = some (t, V) ∧ (t = 103 ∨ t = 104 ∨ t = 105) ∧ x_ix x V = some v ∧ wX7_check B ad K 124 L (v :: r) σ := xr_aaload dX7_check_123
theorem eX7_check_124 {v0 : Value} : wX7_check B ad K 124 L (v0 :: r) σ ↔ ((r.map fun v => v.category).sum ≤ 8 ∧ x_cl (x_v 3 (eX2_tallyIsRight B ad)) [v0] σ (fun v g => wX7_check B ad K 127 L (v.toList ++ r) g)) := xr_callV [v0] r dX7_check_124 rfl
theorem eX7_check_127 {x : Int32} : wX7_check B ad K 127 L (.int x :: r) σ ↔ (if x = 0 then wX7_check B ad K 130 L r σ else wX7_check B ad K 132 L r σ) := (xr_if_ne dX7_check_127 (by decide)).trans x_ite
theorem eX7_check_130 : wX7_check B ad K 130 L r σ ↔ wX7_check B ad K 131 L (.int 0 :: r) σ := xr_iconst dX7_check_130 (by decide)
theorem eX7_check_131 {x : Int32} : wX7_check B ad K 131 L [.int x] σ ↔ K (some (.int x)) σ := xr_ireturn dX7_check_131
theorem eX7_check_132 : wX7_check B ad K 132 L r σ ↔ ∃ v, L[1]? = some (.int v) ∧ x_nl L 1 ∧ wX7_check B ad K 135 (L.set 1 (.int (v + 1))) r σ := xr_iinc dX7_check_132 (by decide)
theorem eX7_check_135 : wX7_check B ad K 135 L r σ ↔ wX7_check B ad K 110 L r σ := xr_goto dX7_check_135 (by decide)
theorem eX7_check_138 : wX7_check B ad K 138 L r σ ↔ wX7_check B ad K 139 L (.int 1 :: r) σ := xr_iconst dX7_check_138 (by decide)
theorem eX7_check_139 {x : Int32} : wX7_check B ad K 139 L [.int x] σ ↔ K (some (.int x)) σ := xr_ireturn dX7_check_139
end
abbrev wX8_begin (B : Nat) (ad : Nat → Nat) (K : xK) : Nat → List Value → List Value → xW → Prop := x_WP B none (cxX8_begin B ad) cX8_begin K
section
variable {B : Nat} {ad : Nat → Nat} {K : xK} {L r : List Value} {σ : xW}
theorem eX8_begin_0 : wX8_begin B ad K 0 L r σ ↔ ∃ v, L[0]? = some v ∧ x_rfv v ∧ wX8_begin B ad K 1 L (v :: r) σ := xr_aload_n dX8_begin_0
theorem eX8_begin_1 : wX8_begin B ad K 1 L r σ ↔ wX8_begin B ad K 2 L (.int 0 :: r) σ := xr_iconst dX8_begin_1 (by decide)
theorem eX8_begin_2 {x : Int32} {a : Nat} : wX8_begin B ad K 2 L (.int x :: .ref a :: r) σ ↔ ∃ fs, σ.1 a = some (8, fs) ∧ 18 < fs.length ∧ B ≤ a ∧ wX8_begin B ad K 5 L r (x_up σ.1 a (8, fs.set 18 (.int x)), σ.2) := xr_put_i (t := 8) (j := 18) dX8_begin_2 rfl (by decide)
theorem eX8_begin_5 : wX8_begin B ad K 5 L r σ ↔ ∃ v, L[0]? = some v ∧ x_rfv v ∧ wX8_begin B ad K 6 L (v :: r) σ := xr_aload_n dX8_begin_5
theorem eX8_begin_6 : wX8_begin B ad K 6 L r σ ↔ wX8_begin B ad K 7 L (.int 0 :: r) σ := xr_iconst dX8_begin_6 (by decide)
theorem eX8_begin_7 {x : Int32} {a : Nat} : wX8_begin B ad K 7 L (.int x :: .ref a :: r) σ ↔ ∃ fs, σ.1 a = some (8, fs) ∧ 23 < fs.length ∧ B ≤ a ∧ (x = 0 ∨ x = 1) ∧ wX8_begin B ad K 10 L r (x_up σ.1 a (8, fs.set 23 (.int x)), σ.2) := xr_put_z (t := 8) (j := 23) dX8_begin_7 rfl (by decide)
theorem eX8_begin_10 : wX8_begin B ad K 10 L r σ ↔ wX8_begin B ad K 11 L (.int 0 :: r) σ := xr_iconst dX8_begin_10 (by decide)
theorem eX8_begin_11 {v : Int32} : wX8_begin B ad K 11 L (.int v :: r) σ ↔ (1 < L.length ∧ x_nl L 1 ∧ wX8_begin B ad K 12 (L.set 1 (.int v)) r σ) := xr_istore_n dX8_begin_11
theorem eX8_begin_12 : wX8_begin B ad K 12 L r σ ↔ ∃ v, L[1]? = some (.int v) ∧ wX8_begin B ad K 13 L (.int v :: r) σ := xr_iload_n dX8_begin_12
theorem eX8_begin_13 : wX8_begin B ad K 13 L r σ ↔ wX8_begin B ad K 15 L (.int 12 :: r) σ := xr_bipush dX8_begin_13 (by decide)
theorem eX8_begin_15 {x y : Int32} : wX8_begin B ad K 15 L (.int y :: .int x :: r) σ ↔ (if x.toInt < y.toInt then wX8_begin B ad K 18 L r σ else wX8_begin B ad K 31 L r σ) := (xr_icmp_ge dX8_begin_15 (by decide)).trans x_ite
theorem eX8_begin_18 : wX8_begin B ad K 18 L r σ ↔ ∃ v, L[0]? = some v ∧ x_rfv v ∧ wX8_begin B ad K 19 L (v :: r) σ := xr_aload_n dX8_begin_18
theorem eX8_begin_19 {a : Nat} : wX8_begin B ad K 19 L (.ref a :: r) σ ↔ ∃ fs v, σ.1 a = some (8, fs) ∧ fs[24]? = some v ∧ wX8_begin B ad K 22 L (v :: r) σ := xr_getfield (t := 8) (j := 24) dX8_begin_19 rfl
theorem eX8_begin_22 : wX8_begin B ad K 22 L r σ ↔ ∃ v, L[1]? = some (.int v) ∧ wX8_begin B ad K 23 L (.int v :: r) σ := xr_iload_n dX8_begin_22
theorem eX8_begin_23 : wX8_begin B ad K 23 L r σ ↔ wX8_begin B ad K 24 L (.long 0 :: r) σ := xr_lconst dX8_begin_23 (by decide)
theorem eX8_begin_24 {a : Nat} {j : Int32} {x : Int64} : wX8_begin B ad K 24 L (.long x :: .int j :: .ref a :: r) σ ↔ ∃ V, σ.1 a = some (101, V) ∧ (x_ix j V).isSome ∧ B ≤ a ∧ wX8_begin B ad K 25 L r (x_up σ.1 a (101, V.set j.toInt.toNat (.long x)), σ.2) := xr_lastore dX8_begin_24
theorem eX8_begin_25 : wX8_begin B ad K 25 L r σ ↔ ∃ v, L[1]? = some (.int v) ∧ x_nl L 1 ∧ wX8_begin B ad K 28 (L.set 1 (.int (v + 1))) r σ := xr_iinc dX8_begin_25 (by decide)
theorem eX8_begin_28 : wX8_begin B ad K 28 L r σ ↔ wX8_begin B ad K 12 L r σ := xr_goto dX8_begin_28 (by decide)
theorem eX8_begin_31 : wX8_begin B ad K 31 L r σ ↔ ∃ v, L[0]? = some v ∧ x_rfv v ∧ wX8_begin B ad K 32 L (v :: r) σ := xr_aload_n dX8_begin_31
theorem eX8_begin_32 {a : Nat} : wX8_begin B ad K 32 L (.ref a :: r) σ ↔ ∃ fs v, σ.1 a = some (8, fs) ∧ fs[24]? = some v ∧ wX8_begin B ad K 35 L (v :: r) σ := xr_getfield (t := 8) (j := 24) dX8_begin_32 rfl
theorem eX8_begin_35 : wX8_begin B ad K 35 L r σ ↔ wX8_begin B ad K 36 L (.int 1 :: r) σ := xr_iconst dX8_begin_35 (by decide)
theorem eX8_begin_36 : wX8_begin B ad K 36 L r σ ↔ ∃ v, L[0]? = some v ∧ x_rfv v ∧ wX8_begin B ad K 37 L (v :: r) σ := xr_aload_n dX8_begin_36
theorem eX8_begin_37 {a : Nat} : wX8_begin B ad K 37 L (.ref a :: r) σ ↔ ∃ fs v, σ.1 a = some (8, fs) ∧ fs[12]? = some v ∧ wX8_begin B ad K 40 L (v :: r) σ := xr_getfield (t := 8) (j := 12) dX8_begin_37 rfl
theorem eX8_begin_40 {x : Int32} : wX8_begin B ad K 40 L (.int x :: r) σ ↔ wX8_begin B ad K 41 L (.long x.toInt64 :: r) σ := xr_i2l dX8_begin_40
theorem eX8_begin_41 {a : Nat} {j : Int32} {x : Int64} : wX8_begin B ad K 41 L (.long x :: .int j :: .ref a :: r) σ ↔ ∃ V, σ.1 a = some (101, V) ∧ (x_ix j V).isSome ∧ B ≤ a ∧ wX8_begin B ad K 42 L r (x_up σ.1 a (101, V.set j.toInt.toNat (.long x)), σ.2) := xr_lastore dX8_begin_41
theorem eX8_begin_42 : wX8_begin B ad K 42 L r σ ↔ ∃ v, L[0]? = some v ∧ x_rfv v ∧ wX8_begin B ad K 43 L (v :: r) σ := xr_aload_n dX8_begin_42
theorem eX8_begin_43 : wX8_begin B ad K 43 L r σ ↔ ∃ v, L[0]? = some v ∧ x_rfv v ∧ wX8_begin B ad K 44 L (v :: r) σ := xr_aload_n dX8_begin_43
theorem eX8_begin_44 {a : Nat} : wX8_begin B ad K 44 L (.ref a :: r) σ ↔ ∃ fs v, σ.1 a = some (8, fs) ∧ fs[13]? = some v ∧ wX8_begin B ad K 47 L (v :: r) σ := xr_getfield (t := 8) (j := 13) dX8_begin_44 rfl
theorem eX8_begin_47 {x : Int32} {a : Nat} : wX8_begin B ad K 47 L (.int x :: .ref a :: r) σ ↔ ∃ fs, σ.1 a = some (8, fs) ∧ 25 < fs.length ∧ B ≤ a ∧ wX8_begin B ad K 50 L r (x_up σ.1 a (8, fs.set 25 (.int x)), σ.2) := xr_put_i (t := 8) (j := 25) dX8_begin_47 rfl (by decide)
theorem eX8_begin_50 : wX8_begin B ad K 50 L r σ ↔ ∃ v, L[0]? = some v ∧ x_rfv v ∧ wX8_begin B ad K 51 L (v :: r) σ := xr_aload_n dX8_begin_50
theorem eX8_begin_51 : wX8_begin B ad K 51 L r σ ↔ ∃ v, L[0]? = some v ∧ x_rfv v ∧ wX8_begin B ad K 52 L (v :: r) σ := xr_aload_n dX8_begin_51
theorem eX8_begin_52 {a : Nat} : wX8_begin B ad K 52 L (.ref a :: r) σ ↔ ∃ fs v, σ.1 a = some (8, fs) ∧ fs[14]? = some v ∧ wX8_begin B ad K 55 L (v :: r) σ := xr_getfield (t := 8) (j := 14) dX8_begin_52 rfl
theorem eX8_begin_55 {x : Int32} {a : Nat} : wX8_begin B ad K 55 L (.int x :: .ref a :: r) σ ↔ ∃ fs, σ.1 a = some (8, fs) ∧ 26 < fs.length ∧ B ≤ a ∧ wX8_begin B ad K 58 L r (x_up σ.1 a (8, fs.set 26 (.int x)), σ.2) := xr_put_i (t := 8) (j := 26) dX8_begin_55 rfl (by decide)
theorem eX8_begin_58 : wX8_begin B ad K 58 L r σ ↔ ∃ v, L[0]? = some v ∧ x_rfv v ∧ wX8_begin B ad K 59 L (v :: r) σ := xr_aload_n dX8_begin_58
theorem eX8_begin_59 : wX8_begin B ad K 59 L r σ ↔ wX8_begin B ad K 60 L (.long 0 :: r) σ := xr_lconst dX8_begin_59 (by decide)
theorem eX8_begin_60 {x : Int64} {a : Nat} : wX8_begin B ad K 60 L (.long x :: .ref a :: r) σ ↔ ∃ fs, σ.1 a = some (8, fs) ∧ 27 < fs.length ∧ B ≤ a ∧ wX8_begin B ad K 63 L r (x_up σ.1 a (8, fs.set 27 (.long x)), σ.2) := xr_put_l (t := 8) (j := 27) dX8_begin_60 rfl (by decide)
theorem eX8_begin_63 : wX8_begin B ad K 63 L r σ ↔ wX8_begin B ad K 64 L (.int 0 :: r) σ := xr_iconst dX8_begin_63 (by decide)
theorem eX8_begin_64 {v : Int32} : wX8_begin B ad K 64 L (.int v :: r) σ ↔ (1 < L.length ∧ x_nl L 1 ∧ wX8_begin B ad K 65 (L.set 1 (.int v)) r σ) := xr_istore_n dX8_begin_64
theorem eX8_begin_65 : wX8_begin B ad K 65 L r σ ↔ ∃ v, L[1]? = some (.int v) ∧ wX8_begin B ad K 66 L (.int v :: r) σ := xr_iload_n dX8_begin_65
theorem eX8_begin_66 : wX8_begin B ad K 66 L r σ ↔ wX8_begin B ad K 67 L (.int 4 :: r) σ := xr_iconst dX8_begin_66 (by decide)
theorem eX8_begin_67 {x y : Int32} : wX8_begin B ad K 67 L (.int y :: .int x :: r) σ ↔ (if x.toInt < y.toInt then wX8_begin B ad K 70 L r σ else wX8_begin B ad K 90 L r σ) := (xr_icmp_ge dX8_begin_67 (by decide)).trans x_ite
theorem eX8_begin_70 : wX8_begin B ad K 70 L r σ ↔ ∃ v, L[0]? = some v ∧ x_rfv v ∧ wX8_begin B ad K 71 L (v :: r) σ := xr_aload_n dX8_begin_70
theorem eX8_begin_71 {a : Nat} : wX8_begin B ad K 71 L (.ref a :: r) σ ↔ ∃ fs v, σ.1 a = some (8, fs) ∧ fs[28]? = some v ∧ wX8_begin B ad K 74 L (v :: r) σ := xr_getfield (t := 8) (j := 28) dX8_begin_71 rfl
theorem eX8_begin_74 : wX8_begin B ad K 74 L r σ ↔ ∃ v, L[1]? = some (.int v) ∧ wX8_begin B ad K 75 L (.int v :: r) σ := xr_iload_n dX8_begin_74
theorem eX8_begin_75 : wX8_begin B ad K 75 L r σ ↔ wX8_begin B ad K 76 L (.int 0 :: r) σ := xr_iconst dX8_begin_75 (by decide)
theorem eX8_begin_76 {a : Nat} {j x : Int32} : wX8_begin B ad K 76 L (.int x :: .int j :: .ref a :: r) σ ↔ ∃ V, σ.1 a = some (102, V) ∧ (x = 0 ∨ x = 1) ∧ (x_ix j V).isSome ∧ B ≤ a ∧ wX8_begin B ad K 77 L r (x_up σ.1 a (102, V.set j.toInt.toNat (.int x)), σ.2) := xr_bastore dX8_begin_76
theorem eX8_begin_77 : wX8_begin B ad K 77 L r σ ↔ ∃ v, L[0]? = some v ∧ x_rfv v ∧ wX8_begin B ad K 78 L (v :: r) σ := xr_aload_n dX8_begin_77
theorem eX8_begin_78 {a : Nat} : wX8_begin B ad K 78 L (.ref a :: r) σ ↔ ∃ fs v, σ.1 a = some (8, fs) ∧ fs[29]? = some v ∧ wX8_begin B ad K 81 L (v :: r) σ := xr_getfield (t := 8) (j := 29) dX8_begin_78 rfl
theorem eX8_begin_81 : wX8_begin B ad K 81 L r σ ↔ ∃ v, L[1]? = some (.int v) ∧ wX8_begin B ad K 82 L (.int v :: r) σ := xr_iload_n dX8_begin_81
theorem eX8_begin_82 : wX8_begin B ad K 82 L r σ ↔ wX8_begin B ad K 83 L (.int 0 :: r) σ := xr_iconst dX8_begin_82 (by decide)
theorem eX8_begin_83 {a : Nat} {j x : Int32} : wX8_begin B ad K 83 L (.int x :: .int j :: .ref a :: r) σ ↔ ∃ V, σ.1 a = some (102, V) ∧ (x = 0 ∨ x = 1) ∧ (x_ix j V).isSome ∧ B ≤ a ∧ wX8_begin B ad K 84 L r (x_up σ.1 a (102, V.set j.toInt.toNat (.int x)), σ.2) := xr_bastore dX8_begin_83
theorem eX8_begin_84 : wX8_begin B ad K 84 L r σ ↔ ∃ v, L[1]? = some (.int v) ∧ x_nl L 1 ∧ wX8_begin B ad K 87 (L.set 1 (.int (v + 1))) r σ := xr_iinc dX8_begin_84 (by decide)
theorem eX8_begin_87 : wX8_begin B ad K 87 L r σ ↔ wX8_begin B ad K 65 L r σ := xr_goto dX8_begin_87 (by decide)
theorem eX8_begin_90 : wX8_begin B ad K 90 L r σ ↔ ∃ v, L[0]? = some v ∧ x_rfv v ∧ wX8_begin B ad K 91 L (v :: r) σ := xr_aload_n dX8_begin_90
theorem eX8_begin_91 : wX8_begin B ad K 91 L r σ ↔ wX8_begin B ad K 92 L (.int 0 :: r) σ := xr_iconst dX8_begin_91 (by decide)
theorem eX8_begin_92 {x : Int32} {a : Nat} : wX8_begin B ad K 92 L (.int x :: .ref a :: r) σ ↔ ∃ fs, σ.1 a = some (8, fs) ∧ 30 < fs.length ∧ B ≤ a ∧ (x = 0 ∨ x = 1) ∧ wX8_begin B ad K 95 L r (x_up σ.1 a (8, fs.set 30 (.int x)), σ.2) := xr_put_z (t := 8) (j := 30) dX8_begin_92 rfl (by decide)
theorem eX8_begin_95 : wX8_begin B ad K 95 L [] σ ↔ K none σ := xr_return dX8_begin_95
end
abbrev wX8_init (B : Nat) (ad : Nat → Nat) (K : xK) : Nat → List Value → List Value → xW → Prop := x_WP B none (cxX8_init B ad) cX8_init K
section
variable {B : Nat} {ad : Nat → Nat} {K : xK} {L r : List Value} {σ : xW}
theorem eX8_init_0 : wX8_init B ad K 0 L r σ ↔ ∃ v, L[0]? = some v ∧ x_rfv v ∧ wX8_init B ad K 1 L (v :: r) σ := xr_aload_n dX8_init_0
theorem eX8_init_1 {v0 : Value} : wX8_init B ad K 1 L (v0 :: r) σ ↔ ((r.map fun v => v.category).sum ≤ 8 ∧ x_cl (x_obj) [v0] σ (fun v g => wX8_init B ad K 4 L (v.toList ++ r) g)) := xr_callI [v0] r dX8_init_1 rfl
theorem eX8_init_4 : wX8_init B ad K 4 L r σ ↔ ∃ v, L[0]? = some v ∧ x_rfv v ∧ wX8_init B ad K 5 L (v :: r) σ := xr_aload_n dX8_init_4
theorem eX8_init_5 : wX8_init B ad K 5 L r σ ↔ wX8_init B ad K 8 L (.int 400 :: r) σ := xr_sipush dX8_init_5 (by decide)
theorem eX8_init_8 {x : Int32} : wX8_init B ad K 8 L (.int x :: r) σ ↔ (¬ x.toInt < 0 ∧ x.toInt ≤ 60000000 ∧ wX8_init B ad K 10 L (.ref σ.2.1 :: r) (x_up σ.1 σ.2.1 (100, List.replicate x.toInt.toNat (.int 0)), σ.2.1 + 1, σ.2.2 + x.toInt.toNat)) := xr_newarray (t := 100) dX8_init_8 rfl
theorem eX8_init_10 {v : Value} {a : Nat} : wX8_init B ad K 10 L (v :: .ref a :: r) σ ↔ ∃ fs, σ.1 a = some (8, fs) ∧ 2 < fs.length ∧ B ≤ a ∧ x_rfv v ∧ wX8_init B ad K 13 L r (x_up σ.1 a (8, fs.set 2 (v)), σ.2) := xr_put_a (t := 8) (j := 2) dX8_init_10 rfl (by decide)
theorem eX8_init_13 : wX8_init B ad K 13 L r σ ↔ ∃ v, L[0]? = some v ∧ x_rfv v ∧ wX8_init B ad K 14 L (v :: r) σ := xr_aload_n dX8_init_13
theorem eX8_init_14 : wX8_init B ad K 14 L r σ ↔ wX8_init B ad K 17 L (.int 400 :: r) σ := xr_sipush dX8_init_14 (by decide)
theorem eX8_init_17 {x : Int32} : wX8_init B ad K 17 L (.int x :: r) σ ↔ (¬ x.toInt < 0 ∧ x.toInt ≤ 60000000 ∧ wX8_init B ad K 19 L (.ref σ.2.1 :: r) (x_up σ.1 σ.2.1 (100, List.replicate x.toInt.toNat (.int 0)), σ.2.1 + 1, σ.2.2 + x.toInt.toNat)) := xr_newarray (t := 100) dX8_init_17 rfl
theorem eX8_init_19 {v : Value} {a : Nat} : wX8_init B ad K 19 L (v :: .ref a :: r) σ ↔ ∃ fs, σ.1 a = some (8, fs) ∧ 3 < fs.length ∧ B ≤ a ∧ x_rfv v ∧ wX8_init B ad K 22 L r (x_up σ.1 a (8, fs.set 3 (v)), σ.2) := xr_put_a (t := 8) (j := 3) dX8_init_19 rfl (by decide)
theorem eX8_init_22 : wX8_init B ad K 22 L r σ ↔ ∃ v, L[0]? = some v ∧ x_rfv v ∧ wX8_init B ad K 23 L (v :: r) σ := xr_aload_n dX8_init_22
theorem eX8_init_23 : wX8_init B ad K 23 L r σ ↔ wX8_init B ad K 26 L (.int 400 :: r) σ := xr_sipush dX8_init_23 (by decide)
theorem eX8_init_26 {x : Int32} : wX8_init B ad K 26 L (.int x :: r) σ ↔ (¬ x.toInt < 0 ∧ x.toInt ≤ 60000000 ∧ wX8_init B ad K 28 L (.ref σ.2.1 :: r) (x_up σ.1 σ.2.1 (100, List.replicate x.toInt.toNat (.int 0)), σ.2.1 + 1, σ.2.2 + x.toInt.toNat)) := xr_newarray (t := 100) dX8_init_26 rfl
theorem eX8_init_28 {v : Value} {a : Nat} : wX8_init B ad K 28 L (v :: .ref a :: r) σ ↔ ∃ fs, σ.1 a = some (8, fs) ∧ 4 < fs.length ∧ B ≤ a ∧ x_rfv v ∧ wX8_init B ad K 31 L r (x_up σ.1 a (8, fs.set 4 (v)), σ.2) := xr_put_a (t := 8) (j := 4) dX8_init_28 rfl (by decide)
theorem eX8_init_31 : wX8_init B ad K 31 L r σ ↔ ∃ v, L[0]? = some v ∧ x_rfv v ∧ wX8_init B ad K 32 L (v :: r) σ := xr_aload_n dX8_init_31
theorem eX8_init_32 : wX8_init B ad K 32 L r σ ↔ wX8_init B ad K 35 L (.int 400 :: r) σ := xr_sipush dX8_init_32 (by decide)
theorem eX8_init_35 {x : Int32} : wX8_init B ad K 35 L (.int x :: r) σ ↔ (¬ x.toInt < 0 ∧ x.toInt ≤ 60000000 ∧ wX8_init B ad K 37 L (.ref σ.2.1 :: r) (x_up σ.1 σ.2.1 (100, List.replicate x.toInt.toNat (.int 0)), σ.2.1 + 1, σ.2.2 + x.toInt.toNat)) := xr_newarray (t := 100) dX8_init_35 rfl
theorem eX8_init_37 {v : Value} {a : Nat} : wX8_init B ad K 37 L (v :: .ref a :: r) σ ↔ ∃ fs, σ.1 a = some (8, fs) ∧ 5 < fs.length ∧ B ≤ a ∧ x_rfv v ∧ wX8_init B ad K 40 L r (x_up σ.1 a (8, fs.set 5 (v)), σ.2) := xr_put_a (t := 8) (j := 5) dX8_init_37 rfl (by decide)
theorem eX8_init_40 : wX8_init B ad K 40 L r σ ↔ ∃ v, L[0]? = some v ∧ x_rfv v ∧ wX8_init B ad K 41 L (v :: r) σ := xr_aload_n dX8_init_40
theorem eX8_init_41 : wX8_init B ad K 41 L r σ ↔ wX8_init B ad K 44 L (.int 400 :: r) σ := xr_sipush dX8_init_41 (by decide)
theorem eX8_init_44 {x : Int32} : wX8_init B ad K 44 L (.int x :: r) σ ↔ (¬ x.toInt < 0 ∧ x.toInt ≤ 60000000 ∧ wX8_init B ad K 46 L (.ref σ.2.1 :: r) (x_up σ.1 σ.2.1 (100, List.replicate x.toInt.toNat (.int 0)), σ.2.1 + 1, σ.2.2 + x.toInt.toNat)) := xr_newarray (t := 100) dX8_init_44 rfl
theorem eX8_init_46 {v : Value} {a : Nat} : wX8_init B ad K 46 L (v :: .ref a :: r) σ ↔ ∃ fs, σ.1 a = some (8, fs) ∧ 6 < fs.length ∧ B ≤ a ∧ x_rfv v ∧ wX8_init B ad K 49 L r (x_up σ.1 a (8, fs.set 6 (v)), σ.2) := xr_put_a (t := 8) (j := 6) dX8_init_46 rfl (by decide)
theorem eX8_init_49 : wX8_init B ad K 49 L r σ ↔ ∃ v, L[0]? = some v ∧ x_rfv v ∧ wX8_init B ad K 50 L (v :: r) σ := xr_aload_n dX8_init_49
theorem eX8_init_50 : wX8_init B ad K 50 L r σ ↔ wX8_init B ad K 51 L (.int 4 :: r) σ := xr_iconst dX8_init_50 (by decide)
theorem eX8_init_51 {x : Int32} : wX8_init B ad K 51 L (.int x :: r) σ ↔ (¬ x.toInt < 0 ∧ x.toInt ≤ 60000000 ∧ wX8_init B ad K 53 L (.ref σ.2.1 :: r) (x_up σ.1 σ.2.1 (100, List.replicate x.toInt.toNat (.int 0)), σ.2.1 + 1, σ.2.2 + x.toInt.toNat)) := xr_newarray (t := 100) dX8_init_51 rfl
theorem eX8_init_53 {v : Value} {a : Nat} : wX8_init B ad K 53 L (v :: .ref a :: r) σ ↔ ∃ fs, σ.1 a = some (8, fs) ∧ 8 < fs.length ∧ B ≤ a ∧ x_rfv v ∧ wX8_init B ad K 56 L r (x_up σ.1 a (8, fs.set 8 (v)), σ.2) := xr_put_a (t := 8) (j := 8) dX8_init_53 rfl (by decide)
theorem eX8_init_56 : wX8_init B ad K 56 L r σ ↔ ∃ v, L[0]? = some v ∧ x_rfv v ∧ wX8_init B ad K 57 L (v :: r) σ := xr_aload_n dX8_init_56
theorem eX8_init_57 : wX8_init B ad K 57 L r σ ↔ wX8_init B ad K 58 L (.int 4 :: r) σ := xr_iconst dX8_init_57 (by decide)
theorem eX8_init_58 {x : Int32} : wX8_init B ad K 58 L (.int x :: r) σ ↔ (¬ x.toInt < 0 ∧ x.toInt ≤ 60000000 ∧ wX8_init B ad K 60 L (.ref σ.2.1 :: r) (x_up σ.1 σ.2.1 (100, List.replicate x.toInt.toNat (.int 0)), σ.2.1 + 1, σ.2.2 + x.toInt.toNat)) := xr_newarray (t := 100) dX8_init_58 rfl
theorem eX8_init_60 {v : Value} {a : Nat} : wX8_init B ad K 60 L (v :: .ref a :: r) σ ↔ ∃ fs, σ.1 a = some (8, fs) ∧ 9 < fs.length ∧ B ≤ a ∧ x_rfv v ∧ wX8_init B ad K 63 L r (x_up σ.1 a (8, fs.set 9 (v)), σ.2) := xr_put_a (t := 8) (j := 9) dX8_init_60 rfl (by decide)
theorem eX8_init_63 : wX8_init B ad K 63 L r σ ↔ ∃ v, L[0]? = some v ∧ x_rfv v ∧ wX8_init B ad K 64 L (v :: r) σ := xr_aload_n dX8_init_63
theorem eX8_init_64 : wX8_init B ad K 64 L r σ ↔ wX8_init B ad K 65 L (.int 4 :: r) σ := xr_iconst dX8_init_64 (by decide)
theorem eX8_init_65 {x : Int32} : wX8_init B ad K 65 L (.int x :: r) σ ↔ (¬ x.toInt < 0 ∧ x.toInt ≤ 60000000 ∧ wX8_init B ad K 67 L (.ref σ.2.1 :: r) (x_up σ.1 σ.2.1 (100, List.replicate x.toInt.toNat (.int 0)), σ.2.1 + 1, σ.2.2 + x.toInt.toNat)) := xr_newarray (t := 100) dX8_init_65 rfl
theorem eX8_init_67 {v : Value} {a : Nat} : wX8_init B ad K 67 L (v :: .ref a :: r) σ ↔ ∃ fs, σ.1 a = some (8, fs) ∧ 10 < fs.length ∧ B ≤ a ∧ x_rfv v ∧ wX8_init B ad K 70 L r (x_up σ.1 a (8, fs.set 10 (v)), σ.2) := xr_put_a (t := 8) (j := 10) dX8_init_67 rfl (by decide)
theorem eX8_init_70 : wX8_init B ad K 70 L r σ ↔ ∃ v, L[0]? = some v ∧ x_rfv v ∧ wX8_init B ad K 71 L (v :: r) σ := xr_aload_n dX8_init_70
theorem eX8_init_71 : wX8_init B ad K 71 L r σ ↔ wX8_init B ad K 72 L (.int 4 :: r) σ := xr_iconst dX8_init_71 (by decide)
theorem eX8_init_72 {x : Int32} : wX8_init B ad K 72 L (.int x :: r) σ ↔ (¬ x.toInt < 0 ∧ x.toInt ≤ 60000000 ∧ wX8_init B ad K 74 L (.ref σ.2.1 :: r) (x_up σ.1 σ.2.1 (100, List.replicate x.toInt.toNat (.int 0)), σ.2.1 + 1, σ.2.2 + x.toInt.toNat)) := xr_newarray (t := 100) dX8_init_72 rfl
theorem eX8_init_74 {v : Value} {a : Nat} : wX8_init B ad K 74 L (v :: .ref a :: r) σ ↔ ∃ fs, σ.1 a = some (8, fs) ∧ 11 < fs.length ∧ B ≤ a ∧ x_rfv v ∧ wX8_init B ad K 77 L r (x_up σ.1 a (8, fs.set 11 (v)), σ.2) := xr_put_a (t := 8) (j := 11) dX8_init_74 rfl (by decide)
theorem eX8_init_77 : wX8_init B ad K 77 L r σ ↔ ∃ v, L[0]? = some v ∧ x_rfv v ∧ wX8_init B ad K 78 L (v :: r) σ := xr_aload_n dX8_init_77
theorem eX8_init_78 : wX8_init B ad K 78 L r σ ↔ wX8_init B ad K 81 L (.int 1000 :: r) σ := xr_sipush dX8_init_78 (by decide)
theorem eX8_init_81 {x : Int32} {a : Nat} : wX8_init B ad K 81 L (.int x :: .ref a :: r) σ ↔ ∃ fs, σ.1 a = some (8, fs) ∧ 12 < fs.length ∧ B ≤ a ∧ wX8_init B ad K 84 L r (x_up σ.1 a (8, fs.set 12 (.int x)), σ.2) := xr_put_i (t := 8) (j := 12) dX8_init_81 rfl (by decide)
theorem eX8_init_84 : wX8_init B ad K 84 L r σ ↔ ∃ v, L[0]? = some v ∧ x_rfv v ∧ wX8_init B ad K 85 L (v :: r) σ := xr_aload_n dX8_init_84
theorem eX8_init_85 : wX8_init B ad K 85 L r σ ↔ wX8_init B ad K 88 L (.int 900 :: r) σ := xr_sipush dX8_init_85 (by decide)
theorem eX8_init_88 {x : Int32} : wX8_init B ad K 88 L (.int x :: r) σ ↔ (¬ x.toInt < 0 ∧ x.toInt ≤ 60000000 ∧ wX8_init B ad K 90 L (.ref σ.2.1 :: r) (x_up σ.1 σ.2.1 (100, List.replicate x.toInt.toNat (.int 0)), σ.2.1 + 1, σ.2.2 + x.toInt.toNat)) := xr_newarray (t := 100) dX8_init_88 rfl
theorem eX8_init_90 {v : Value} {a : Nat} : wX8_init B ad K 90 L (v :: .ref a :: r) σ ↔ ∃ fs, σ.1 a = some (8, fs) ∧ 16 < fs.length ∧ B ≤ a ∧ x_rfv v ∧ wX8_init B ad K 93 L r (x_up σ.1 a (8, fs.set 16 (v)), σ.2) := xr_put_a (t := 8) (j := 16) dX8_init_90 rfl (by decide)
theorem eX8_init_93 : wX8_init B ad K 93 L r σ ↔ ∃ v, L[0]? = some v ∧ x_rfv v ∧ wX8_init B ad K 94 L (v :: r) σ := xr_aload_n dX8_init_93
theorem eX8_init_94 : wX8_init B ad K 94 L r σ ↔ wX8_init B ad K 97 L (.int 900 :: r) σ := xr_sipush dX8_init_94 (by decide)
theorem eX8_init_97 {x : Int32} : wX8_init B ad K 97 L (.int x :: r) σ ↔ (¬ x.toInt < 0 ∧ x.toInt ≤ 60000000 ∧ wX8_init B ad K 99 L (.ref σ.2.1 :: r) (x_up σ.1 σ.2.1 (100, List.replicate x.toInt.toNat (.int 0)), σ.2.1 + 1, σ.2.2 + x.toInt.toNat)) := xr_newarray (t := 100) dX8_init_97 rfl
theorem eX8_init_99 {v : Value} {a : Nat} : wX8_init B ad K 99 L (v :: .ref a :: r) σ ↔ ∃ fs, σ.1 a = some (8, fs) ∧ 17 < fs.length ∧ B ≤ a ∧ x_rfv v ∧ wX8_init B ad K 102 L r (x_up σ.1 a (8, fs.set 17 (v)), σ.2) := xr_put_a (t := 8) (j := 17) dX8_init_99 rfl (by decide)
theorem eX8_init_102 : wX8_init B ad K 102 L r σ ↔ ∃ v, L[0]? = some v ∧ x_rfv v ∧ wX8_init B ad K 103 L (v :: r) σ := xr_aload_n dX8_init_102
theorem eX8_init_103 : wX8_init B ad K 103 L r σ ↔ wX8_init B ad K 106 L (.int 900 :: r) σ := xr_sipush dX8_init_103 (by decide)
theorem eX8_init_106 {x : Int32} : wX8_init B ad K 106 L (.int x :: r) σ ↔ (¬ x.toInt < 0 ∧ x.toInt ≤ 60000000 ∧ wX8_init B ad K 108 L (.ref σ.2.1 :: r) (x_up σ.1 σ.2.1 (100, List.replicate x.toInt.toNat (.int 0)), σ.2.1 + 1, σ.2.2 + x.toInt.toNat)) := xr_newarray (t := 100) dX8_init_106 rfl
theorem eX8_init_108 {v : Value} {a : Nat} : wX8_init B ad K 108 L (v :: .ref a :: r) σ ↔ ∃ fs, σ.1 a = some (8, fs) ∧ 19 < fs.length ∧ B ≤ a ∧ x_rfv v ∧ wX8_init B ad K 111 L r (x_up σ.1 a (8, fs.set 19 (v)), σ.2) := xr_put_a (t := 8) (j := 19) dX8_init_108 rfl (by decide)
theorem eX8_init_111 : wX8_init B ad K 111 L r σ ↔ ∃ v, L[0]? = some v ∧ x_rfv v ∧ wX8_init B ad K 112 L (v :: r) σ := xr_aload_n dX8_init_111
theorem eX8_init_112 : wX8_init B ad K 112 L r σ ↔ wX8_init B ad K 115 L (.int 900 :: r) σ := xr_sipush dX8_init_112 (by decide)
theorem eX8_init_115 {x : Int32} : wX8_init B ad K 115 L (.int x :: r) σ ↔ (¬ x.toInt < 0 ∧ x.toInt ≤ 60000000 ∧ wX8_init B ad K 117 L (.ref σ.2.1 :: r) (x_up σ.1 σ.2.1 (100, List.replicate x.toInt.toNat (.int 0)), σ.2.1 + 1, σ.2.2 + x.toInt.toNat)) := xr_newarray (t := 100) dX8_init_115 rfl
theorem eX8_init_117 {v : Value} {a : Nat} : wX8_init B ad K 117 L (v :: .ref a :: r) σ ↔ ∃ fs, σ.1 a = some (8, fs) ∧ 20 < fs.length ∧ B ≤ a ∧ x_rfv v ∧ wX8_init B ad K 120 L r (x_up σ.1 a (8, fs.set 20 (v)), σ.2) := xr_put_a (t := 8) (j := 20) dX8_init_117 rfl (by decide)
theorem eX8_init_120 : wX8_init B ad K 120 L r σ ↔ ∃ v, L[0]? = some v ∧ x_rfv v ∧ wX8_init B ad K 121 L (v :: r) σ := xr_aload_n dX8_init_120
theorem eX8_init_121 : wX8_init B ad K 121 L r σ ↔ wX8_init B ad K 124 L (.int 900 :: r) σ := xr_sipush dX8_init_121 (by decide)
theorem eX8_init_124 {x : Int32} : wX8_init B ad K 124 L (.int x :: r) σ ↔ (¬ x.toInt < 0 ∧ x.toInt ≤ 60000000 ∧ wX8_init B ad K 126 L (.ref σ.2.1 :: r) (x_up σ.1 σ.2.1 (100, List.replicate x.toInt.toNat (.int 0)), σ.2.1 + 1, σ.2.2 + x.toInt.toNat)) := xr_newarray (t := 100) dX8_init_124 rfl
theorem eX8_init_126 {v : Value} {a : Nat} : wX8_init B ad K 126 L (v :: .ref a :: r) σ ↔ ∃ fs, σ.1 a = some (8, fs) ∧ 21 < fs.length ∧ B ≤ a ∧ x_rfv v ∧ wX8_init B ad K 129 L r (x_up σ.1 a (8, fs.set 21 (v)), σ.2) := xr_put_a (t := 8) (j := 21) dX8_init_126 rfl (by decide)
theorem eX8_init_129 : wX8_init B ad K 129 L r σ ↔ ∃ v, L[0]? = some v ∧ x_rfv v ∧ wX8_init B ad K 130 L (v :: r) σ := xr_aload_n dX8_init_129
theorem eX8_init_130 : wX8_init B ad K 130 L r σ ↔ wX8_init B ad K 133 L (.int 900 :: r) σ := xr_sipush dX8_init_130 (by decide)
theorem eX8_init_133 {x : Int32} : wX8_init B ad K 133 L (.int x :: r) σ ↔ (¬ x.toInt < 0 ∧ x.toInt ≤ 60000000 ∧ wX8_init B ad K 135 L (.ref σ.2.1 :: r) (x_up σ.1 σ.2.1 (102, List.replicate x.toInt.toNat (.int 0)), σ.2.1 + 1, σ.2.2 + x.toInt.toNat)) := xr_newarray (t := 102) dX8_init_133 rfl
theorem eX8_init_135 {v : Value} {a : Nat} : wX8_init B ad K 135 L (v :: .ref a :: r) σ ↔ ∃ fs, σ.1 a = some (8, fs) ∧ 22 < fs.length ∧ B ≤ a ∧ x_rfv v ∧ wX8_init B ad K 138 L r (x_up σ.1 a (8, fs.set 22 (v)), σ.2) := xr_put_a (t := 8) (j := 22) dX8_init_135 rfl (by decide)
theorem eX8_init_138 : wX8_init B ad K 138 L r σ ↔ ∃ v, L[0]? = some v ∧ x_rfv v ∧ wX8_init B ad K 139 L (v :: r) σ := xr_aload_n dX8_init_138
theorem eX8_init_139 : wX8_init B ad K 139 L r σ ↔ wX8_init B ad K 141 L (.int 24 :: r) σ := xr_bipush dX8_init_139 (by decide)
theorem eX8_init_141 {x : Int32} : wX8_init B ad K 141 L (.int x :: r) σ ↔ (¬ x.toInt < 0 ∧ x.toInt ≤ 60000000 ∧ wX8_init B ad K 143 L (.ref σ.2.1 :: r) (x_up σ.1 σ.2.1 (101, List.replicate x.toInt.toNat (.long 0)), σ.2.1 + 1, σ.2.2 + x.toInt.toNat)) := xr_newarray (t := 101) dX8_init_141 rfl
theorem eX8_init_143 {v : Value} {a : Nat} : wX8_init B ad K 143 L (v :: .ref a :: r) σ ↔ ∃ fs, σ.1 a = some (8, fs) ∧ 24 < fs.length ∧ B ≤ a ∧ x_rfv v ∧ wX8_init B ad K 146 L r (x_up σ.1 a (8, fs.set 24 (v)), σ.2) := xr_put_a (t := 8) (j := 24) dX8_init_143 rfl (by decide)
theorem eX8_init_146 : wX8_init B ad K 146 L r σ ↔ ∃ v, L[0]? = some v ∧ x_rfv v ∧ wX8_init B ad K 147 L (v :: r) σ := xr_aload_n dX8_init_146
theorem eX8_init_147 : wX8_init B ad K 147 L r σ ↔ wX8_init B ad K 148 L (.int 4 :: r) σ := xr_iconst dX8_init_147 (by decide)
theorem eX8_init_148 {x : Int32} : wX8_init B ad K 148 L (.int x :: r) σ ↔ (¬ x.toInt < 0 ∧ x.toInt ≤ 60000000 ∧ wX8_init B ad K 150 L (.ref σ.2.1 :: r) (x_up σ.1 σ.2.1 (102, List.replicate x.toInt.toNat (.int 0)), σ.2.1 + 1, σ.2.2 + x.toInt.toNat)) := xr_newarray (t := 102) dX8_init_148 rfl
theorem eX8_init_150 {v : Value} {a : Nat} : wX8_init B ad K 150 L (v :: .ref a :: r) σ ↔ ∃ fs, σ.1 a = some (8, fs) ∧ 28 < fs.length ∧ B ≤ a ∧ x_rfv v ∧ wX8_init B ad K 153 L r (x_up σ.1 a (8, fs.set 28 (v)), σ.2) := xr_put_a (t := 8) (j := 28) dX8_init_150 rfl (by decide)
theorem eX8_init_153 : wX8_init B ad K 153 L r σ ↔ ∃ v, L[0]? = some v ∧ x_rfv v ∧ wX8_init B ad K 154 L (v :: r) σ := xr_aload_n dX8_init_153
theorem eX8_init_154 : wX8_init B ad K 154 L r σ ↔ wX8_init B ad K 155 L (.int 4 :: r) σ := xr_iconst dX8_init_154 (by decide)
theorem eX8_init_155 {x : Int32} : wX8_init B ad K 155 L (.int x :: r) σ ↔ (¬ x.toInt < 0 ∧ x.toInt ≤ 60000000 ∧ wX8_init B ad K 157 L (.ref σ.2.1 :: r) (x_up σ.1 σ.2.1 (102, List.replicate x.toInt.toNat (.int 0)), σ.2.1 + 1, σ.2.2 + x.toInt.toNat)) := xr_newarray (t := 102) dX8_init_155 rfl
theorem eX8_init_157 {v : Value} {a : Nat} : wX8_init B ad K 157 L (v :: .ref a :: r) σ ↔ ∃ fs, σ.1 a = some (8, fs) ∧ 29 < fs.length ∧ B ≤ a ∧ x_rfv v ∧ wX8_init B ad K 160 L r (x_up σ.1 a (8, fs.set 29 (v)), σ.2) := xr_put_a (t := 8) (j := 29) dX8_init_157 rfl (by decide)
theorem eX8_init_160 : wX8_init B ad K 160 L r σ ↔ ∃ v, L[0]? = some v ∧ x_rfv v ∧ wX8_init B ad K 161 L (v :: r) σ := xr_aload_n dX8_init_160
theorem eX8_init_161 : wX8_init B ad K 161 L r σ ↔ wX8_init B ad K 163 L (.int 61 :: r) σ := xr_bipush dX8_init_161 (by decide)
theorem eX8_init_163 {x : Int32} : wX8_init B ad K 163 L (.int x :: r) σ ↔ (¬ x.toInt < 0 ∧ x.toInt ≤ 60000000 ∧ wX8_init B ad K 165 L (.ref σ.2.1 :: r) (x_up σ.1 σ.2.1 (100, List.replicate x.toInt.toNat (.int 0)), σ.2.1 + 1, σ.2.2 + x.toInt.toNat)) := xr_newarray (t := 100) dX8_init_163 rfl
theorem eX8_init_165 {v : Value} {a : Nat} : wX8_init B ad K 165 L (v :: .ref a :: r) σ ↔ ∃ fs, σ.1 a = some (8, fs) ∧ 35 < fs.length ∧ B ≤ a ∧ x_rfv v ∧ wX8_init B ad K 168 L r (x_up σ.1 a (8, fs.set 35 (v)), σ.2) := xr_put_a (t := 8) (j := 35) dX8_init_165 rfl (by decide)
theorem eX8_init_168 : wX8_init B ad K 168 L r σ ↔ ∃ v, L[0]? = some v ∧ x_rfv v ∧ wX8_init B ad K 169 L (v :: r) σ := xr_aload_n dX8_init_168
theorem eX8_init_169 : wX8_init B ad K 169 L r σ ↔ wX8_init B ad K 172 L (.int 25000 :: r) σ := xr_sipush dX8_init_169 (by decide)
theorem eX8_init_172 {x : Int32} : wX8_init B ad K 172 L (.int x :: r) σ ↔ (¬ x.toInt < 0 ∧ x.toInt ≤ 60000000 ∧ wX8_init B ad K 174 L (.ref σ.2.1 :: r) (x_up σ.1 σ.2.1 (100, List.replicate x.toInt.toNat (.int 0)), σ.2.1 + 1, σ.2.2 + x.toInt.toNat)) := xr_newarray (t := 100) dX8_init_172 rfl
theorem eX8_init_174 {v : Value} {a : Nat} : wX8_init B ad K 174 L (v :: .ref a :: r) σ ↔ ∃ fs, σ.1 a = some (8, fs) ∧ 36 < fs.length ∧ B ≤ a ∧ x_rfv v ∧ wX8_init B ad K 177 L r (x_up σ.1 a (8, fs.set 36 (v)), σ.2) := xr_put_a (t := 8) (j := 36) dX8_init_174 rfl (by decide)
theorem eX8_init_177 : wX8_init B ad K 177 L r σ ↔ ∃ v, L[0]? = some v ∧ x_rfv v ∧ wX8_init B ad K 178 L (v :: r) σ := xr_aload_n dX8_init_177
theorem eX8_init_178 : wX8_init B ad K 178 L r σ ↔ wX8_init B ad K 181 L (.int 25000 :: r) σ := xr_sipush dX8_init_178 (by decide)
theorem eX8_init_181 {x : Int32} : wX8_init B ad K 181 L (.int x :: r) σ ↔ (¬ x.toInt < 0 ∧ x.toInt ≤ 60000000 ∧ wX8_init B ad K 183 L (.ref σ.2.1 :: r) (x_up σ.1 σ.2.1 (100, List.replicate x.toInt.toNat (.int 0)), σ.2.1 + 1, σ.2.2 + x.toInt.toNat)) := xr_newarray (t := 100) dX8_init_181 rfl
theorem eX8_init_183 {v : Value} {a : Nat} : wX8_init B ad K 183 L (v :: .ref a :: r) σ ↔ ∃ fs, σ.1 a = some (8, fs) ∧ 37 < fs.length ∧ B ≤ a ∧ x_rfv v ∧ wX8_init B ad K 186 L r (x_up σ.1 a (8, fs.set 37 (v)), σ.2) := xr_put_a (t := 8) (j := 37) dX8_init_183 rfl (by decide)
theorem eX8_init_186 : wX8_init B ad K 186 L r σ ↔ ∃ v, L[0]? = some v ∧ x_rfv v ∧ wX8_init B ad K 187 L (v :: r) σ := xr_aload_n dX8_init_186
theorem eX8_init_187 : wX8_init B ad K 187 L r σ ↔ wX8_init B ad K 190 L (.int 720 :: r) σ := xr_sipush dX8_init_187 (by decide)
theorem eX8_init_190 {x : Int32} : wX8_init B ad K 190 L (.int x :: r) σ ↔ (¬ x.toInt < 0 ∧ x.toInt ≤ 60000000 ∧ wX8_init B ad K 192 L (.ref σ.2.1 :: r) (x_up σ.1 σ.2.1 (101, List.replicate x.toInt.toNat (.long 0)), σ.2.1 + 1, σ.2.2 + x.toInt.toNat)) := xr_newarray (t := 101) dX8_init_190 rfl
theorem eX8_init_192 {v : Value} {a : Nat} : wX8_init B ad K 192 L (v :: .ref a :: r) σ ↔ ∃ fs, σ.1 a = some (8, fs) ∧ 38 < fs.length ∧ B ≤ a ∧ x_rfv v ∧ wX8_init B ad K 195 L r (x_up σ.1 a (8, fs.set 38 (v)), σ.2) := xr_put_a (t := 8) (j := 38) dX8_init_192 rfl (by decide)
theorem eX8_init_195 : wX8_init B ad K 195 L r σ ↔ ∃ v, L[0]? = some v ∧ x_rfv v ∧ wX8_init B ad K 196 L (v :: r) σ := xr_aload_n dX8_init_195
theorem eX8_init_196 : wX8_init B ad K 196 L r σ ↔ wX8_init B ad K 198 L (.int 60 :: r) σ := xr_bipush dX8_init_196 (by decide)
theorem eX8_init_198 {x : Int32} : wX8_init B ad K 198 L (.int x :: r) σ ↔ (¬ x.toInt < 0 ∧ x.toInt ≤ 60000000 ∧ wX8_init B ad K 200 L (.ref σ.2.1 :: r) (x_up σ.1 σ.2.1 (101, List.replicate x.toInt.toNat (.long 0)), σ.2.1 + 1, σ.2.2 + x.toInt.toNat)) := xr_newarray (t := 101) dX8_init_198 rfl
theorem eX8_init_200 {v : Value} {a : Nat} : wX8_init B ad K 200 L (v :: .ref a :: r) σ ↔ ∃ fs, σ.1 a = some (8, fs) ∧ 39 < fs.length ∧ B ≤ a ∧ x_rfv v ∧ wX8_init B ad K 203 L r (x_up σ.1 a (8, fs.set 39 (v)), σ.2) := xr_put_a (t := 8) (j := 39) dX8_init_200 rfl (by decide)
theorem eX8_init_203 : wX8_init B ad K 203 L r σ ↔ ∃ v, L[0]? = some v ∧ x_rfv v ∧ wX8_init B ad K 204 L (v :: r) σ := xr_aload_n dX8_init_203
theorem eX8_init_204 : wX8_init B ad K 204 L r σ ↔ wX8_init B ad K 206 L (.int 60 :: r) σ := xr_bipush dX8_init_204 (by decide)
theorem eX8_init_206 {x : Int32} : wX8_init B ad K 206 L (.int x :: r) σ ↔ (¬ x.toInt < 0 ∧ x.toInt ≤ 60000000 ∧ wX8_init B ad K 208 L (.ref σ.2.1 :: r) (x_up σ.1 σ.2.1 (100, List.replicate x.toInt.toNat (.int 0)), σ.2.1 + 1, σ.2.2 + x.toInt.toNat)) := xr_newarray (t := 100) dX8_init_206 rfl
theorem eX8_init_208 {v : Value} {a : Nat} : wX8_init B ad K 208 L (v :: .ref a :: r) σ ↔ ∃ fs, σ.1 a = some (8, fs) ∧ 40 < fs.length ∧ B ≤ a ∧ x_rfv v ∧ wX8_init B ad K 211 L r (x_up σ.1 a (8, fs.set 40 (v)), σ.2) := xr_put_a (t := 8) (j := 40) dX8_init_208 rfl (by decide)
theorem eX8_init_211 : wX8_init B ad K 211 L r σ ↔ ∃ v, L[0]? = some v ∧ x_rfv v ∧ wX8_init B ad K 212 L (v :: r) σ := xr_aload_n dX8_init_211
theorem eX8_init_212 : wX8_init B ad K 212 L r σ ↔ wX8_init B ad K 215 L (.int 180 :: r) σ := xr_sipush dX8_init_212 (by decide)
theorem eX8_init_215 {x : Int32} : wX8_init B ad K 215 L (.int x :: r) σ ↔ (¬ x.toInt < 0 ∧ x.toInt ≤ 60000000 ∧ wX8_init B ad K 217 L (.ref σ.2.1 :: r) (x_up σ.1 σ.2.1 (100, List.replicate x.toInt.toNat (.int 0)), σ.2.1 + 1, σ.2.2 + x.toInt.toNat)) := xr_newarray (t := 100) dX8_init_215 rfl
theorem eX8_init_217 {v : Value} {a : Nat} : wX8_init B ad K 217 L (v :: .ref a :: r) σ ↔ ∃ fs, σ.1 a = some (8, fs) ∧ 41 < fs.length ∧ B ≤ a ∧ x_rfv v ∧ wX8_init B ad K 220 L r (x_up σ.1 a (8, fs.set 41 (v)), σ.2) := xr_put_a (t := 8) (j := 41) dX8_init_217 rfl (by decide)
theorem eX8_init_220 : wX8_init B ad K 220 L r σ ↔ ∃ v, L[0]? = some v ∧ x_rfv v ∧ wX8_init B ad K 221 L (v :: r) σ := xr_aload_n dX8_init_220
theorem eX8_init_221 : wX8_init B ad K 221 L r σ ↔ wX8_init B ad K 224 L (.int 900 :: r) σ := xr_sipush dX8_init_221 (by decide)
theorem eX8_init_224 {x : Int32} : wX8_init B ad K 224 L (.int x :: r) σ ↔ (¬ x.toInt < 0 ∧ x.toInt ≤ 60000000 ∧ wX8_init B ad K 226 L (.ref σ.2.1 :: r) (x_up σ.1 σ.2.1 (100, List.replicate x.toInt.toNat (.int 0)), σ.2.1 + 1, σ.2.2 + x.toInt.toNat)) := xr_newarray (t := 100) dX8_init_224 rfl
theorem eX8_init_226 {v : Value} {a : Nat} : wX8_init B ad K 226 L (v :: .ref a :: r) σ ↔ ∃ fs, σ.1 a = some (8, fs) ∧ 43 < fs.length ∧ B ≤ a ∧ x_rfv v ∧ wX8_init B ad K 229 L r (x_up σ.1 a (8, fs.set 43 (v)), σ.2) := xr_put_a (t := 8) (j := 43) dX8_init_226 rfl (by decide)
theorem eX8_init_229 : wX8_init B ad K 229 L r σ ↔ ∃ v, L[0]? = some v ∧ x_rfv v ∧ wX8_init B ad K 230 L (v :: r) σ := xr_aload_n dX8_init_229
theorem eX8_init_230 : wX8_init B ad K 230 L r σ ↔ wX8_init B ad K 233 L (.int 900 :: r) σ := xr_sipush dX8_init_230 (by decide)
theorem eX8_init_233 {x : Int32} : wX8_init B ad K 233 L (.int x :: r) σ ↔ (¬ x.toInt < 0 ∧ x.toInt ≤ 60000000 ∧ wX8_init B ad K 235 L (.ref σ.2.1 :: r) (x_up σ.1 σ.2.1 (100, List.replicate x.toInt.toNat (.int 0)), σ.2.1 + 1, σ.2.2 + x.toInt.toNat)) := xr_newarray (t := 100) dX8_init_233 rfl
theorem eX8_init_235 {v : Value} {a : Nat} : wX8_init B ad K 235 L (v :: .ref a :: r) σ ↔ ∃ fs, σ.1 a = some (8, fs) ∧ 44 < fs.length ∧ B ≤ a ∧ x_rfv v ∧ wX8_init B ad K 238 L r (x_up σ.1 a (8, fs.set 44 (v)), σ.2) := xr_put_a (t := 8) (j := 44) dX8_init_235 rfl (by decide)
theorem eX8_init_238 : wX8_init B ad K 238 L r σ ↔ ∃ v, L[0]? = some v ∧ x_rfv v ∧ wX8_init B ad K 239 L (v :: r) σ := xr_aload_n dX8_init_238
theorem eX8_init_239 {v0 : Value} : wX8_init B ad K 239 L (v0 :: r) σ ↔ ((r.map fun v => v.category).sum ≤ 8 ∧ x_cl (x_v 8 (eX8_begin B ad)) [v0] σ (fun v g => wX8_init B ad K 242 L (v.toList ++ r) g)) := xr_callV [v0] r dX8_init_239 rfl
theorem eX8_init_242 : wX8_init B ad K 242 L [] σ ↔ K none σ := xr_return dX8_init_242
end
abbrev wX8_thrown (B : Nat) (ad : Nat → Nat) (K : xK) : Nat → List Value → List Value → xW → Prop := x_WP B (some .int) (cxX8_thrown B ad) cX8_thrown K
section
variable {B : Nat} {ad : Nat → Nat} {K : xK} {L r : List Value} {σ : xW}
theorem eX8_thrown_0 : wX8_thrown B ad K 0 L r σ ↔ ∃ v, L[0]? = some v ∧ x_rfv v ∧ wX8_thrown B ad K 1 L (v :: r) σ := xr_aload_n dX8_thrown_0
theorem eX8_thrown_1 {a : Nat} : wX8_thrown B ad K 1 L (.ref a :: r) σ ↔ ∃ fs v, σ.1 a = some (8, fs) ∧ fs[0]? = some v ∧ wX8_thrown B ad K 4 L (v :: r) σ := xr_getfield (t := 8) (j := 0) dX8_thrown_1 rfl
theorem eX8_thrown_4 {x : Int32} : wX8_thrown B ad K 4 L [.int x] σ ↔ K (some (.int x)) σ := xr_ireturn dX8_thrown_4
end
abbrev wX8_in (B : Nat) (ad : Nat → Nat) (K : xK) : Nat → List Value → List Value → xW → Prop := x_WP B (some .boolean) (cxX8_in B ad) cX8_in K
section
variable {B : Nat} {ad : Nat → Nat} {K : xK} {L r : List Value} {σ : xW}
theorem eX8_in_0 : wX8_in B ad K 0 L r σ ↔ ∃ v, L[0]? = some (.long v) ∧ wX8_in B ad K 1 L (.long v :: r) σ := xr_lload_n dX8_in_0
theorem eX8_in_1 : wX8_in B ad K 1 L r σ ↔ ∃ v, L[2]? = some (.long v) ∧ wX8_in B ad K 2 L (.long v :: r) σ := xr_lload_n dX8_in_1
theorem eX8_in_2 {x y : Int64} : wX8_in B ad K 2 L (.long y :: .long x :: r) σ ↔ wX8_in B ad K 3 L (.int (lg_cmp x y) :: r) σ := xr_lcmp dX8_in_2
theorem eX8_in_3 {x : Int32} : wX8_in B ad K 3 L (.int x :: r) σ ↔ (if x.toInt < 0 then wX8_in B ad K 17 L r σ else wX8_in B ad K 6 L r σ) := (xr_if_lt dX8_in_3 (by decide)).trans x_ite
theorem eX8_in_6 : wX8_in B ad K 6 L r σ ↔ ∃ v, L[0]? = some (.long v) ∧ wX8_in B ad K 7 L (.long v :: r) σ := xr_lload_n dX8_in_6
theorem eX8_in_7 : wX8_in B ad K 7 L r σ ↔ ∃ v, L[4]? = some (.long v) ∧ wX8_in B ad K 9 L (.long v :: r) σ := xr_lload dX8_in_7
theorem eX8_in_9 {x y : Int64} : wX8_in B ad K 9 L (.long y :: .long x :: r) σ ↔ wX8_in B ad K 10 L (.int (lg_cmp x y) :: r) σ := xr_lcmp dX8_in_9
theorem eX8_in_10 {x : Int32} : wX8_in B ad K 10 L (.int x :: r) σ ↔ (if 0 < x.toInt then wX8_in B ad K 17 L r σ else wX8_in B ad K 13 L r σ) := (xr_if_gt dX8_in_10 (by decide)).trans x_ite
theorem eX8_in_13 : wX8_in B ad K 13 L r σ ↔ wX8_in B ad K 14 L (.int 1 :: r) σ := xr_iconst dX8_in_13 (by decide)
theorem eX8_in_14 : wX8_in B ad K 14 L r σ ↔ wX8_in B ad K 18 L r σ := xr_goto dX8_in_14 (by decide)
theorem eX8_in_17 : wX8_in B ad K 17 L r σ ↔ wX8_in B ad K 18 L (.int 0 :: r) σ := xr_iconst dX8_in_17 (by decide)
theorem eX8_in_18 {x : Int32} : wX8_in B ad K 18 L [.int x] σ ↔ ((x = 0 ∨ x = 1) ∧ K (some (.int x)) σ) := xr_zreturn dX8_in_18
end
abbrev wX8_set (B : Nat) (ad : Nat → Nat) (K : xK) : Nat → List Value → List Value → xW → Prop := x_WP B (some .int) (cxX8_set B ad) cX8_set K
section
variable {B : Nat} {ad : Nat → Nat} {K : xK} {L r : List Value} {σ : xW}
theorem eX8_set_0 : wX8_set B ad K 0 L r σ ↔ ∃ v, L[0]? = some v ∧ x_rfv v ∧ wX8_set B ad K 1 L (v :: r) σ := xr_aload_n dX8_set_0
theorem eX8_set_1 : wX8_set B ad K 1 L r σ ↔ wX8_set B ad K 2 L (.int 0 :: r) σ := xr_iconst dX8_set_1 (by decide)
theorem eX8_set_2 {x : Int32} {a : Nat} : wX8_set B ad K 2 L (.int x :: .ref a :: r) σ ↔ ∃ fs, σ.1 a = some (8, fs) ∧ 0 < fs.length ∧ B ≤ a ∧ wX8_set B ad K 5 L r (x_up σ.1 a (8, fs.set 0 (.int x)), σ.2) := xr_put_i (t := 8) (j := 0) dX8_set_2 rfl (by decide)
theorem eX8_set_5 : wX8_set B ad K 5 L r σ ↔ ∃ v, L[1]? = some (.int v) ∧ wX8_set B ad K 6 L (.int v :: r) σ := xr_iload_n dX8_set_5
theorem eX8_set_6 {x : Int32} : wX8_set B ad K 6 L (.int x :: r) σ ↔ wX8_set B ad K 7 L (.long x.toInt64 :: r) σ := xr_i2l dX8_set_6
theorem eX8_set_7 : wX8_set B ad K 7 L r σ ↔ wX8_set B ad K 8 L (.long 0 :: r) σ := xr_lconst dX8_set_7 (by decide)
theorem eX8_set_8 : wX8_set B ad K 8 L r σ ↔ wX8_set B ad K 11 L (.long 10000000 :: r) σ := xr_ldc2 dX8_set_8 rfl
theorem eX8_set_11 {v0 v1 v2 : Value} : wX8_set B ad K 11 L (v2 :: v1 :: v0 :: r) σ ↔ ((r.map fun v => v.category).sum ≤ 8 ∧ x_cl (eX8_in B ad) [v0, v1, v2] σ (fun v g => wX8_set B ad K 14 L (v.toList ++ r) g)) := xr_callS [v0, v1, v2] r dX8_set_11 rfl
theorem eX8_set_14 {x : Int32} : wX8_set B ad K 14 L (.int x :: r) σ ↔ (if x = 0 then wX8_set B ad K 41 L r σ else wX8_set B ad K 17 L r σ) := (xr_if_eq dX8_set_14 (by decide)).trans x_ite
theorem eX8_set_17 : wX8_set B ad K 17 L r σ ↔ ∃ v, L[2]? = some (.int v) ∧ wX8_set B ad K 18 L (.int v :: r) σ := xr_iload_n dX8_set_17
theorem eX8_set_18 {x : Int32} : wX8_set B ad K 18 L (.int x :: r) σ ↔ wX8_set B ad K 19 L (.long x.toInt64 :: r) σ := xr_i2l dX8_set_18
theorem eX8_set_19 : wX8_set B ad K 19 L r σ ↔ wX8_set B ad K 20 L (.long 0 :: r) σ := xr_lconst dX8_set_19 (by decide)
theorem eX8_set_20 : wX8_set B ad K 20 L r σ ↔ wX8_set B ad K 23 L (.long 10000000 :: r) σ := xr_ldc2 dX8_set_20 rfl
theorem eX8_set_23 {v0 v1 v2 : Value} : wX8_set B ad K 23 L (v2 :: v1 :: v0 :: r) σ ↔ ((r.map fun v => v.category).sum ≤ 8 ∧ x_cl (eX8_in B ad) [v0, v1, v2] σ (fun v g => wX8_set B ad K 26 L (v.toList ++ r) g)) := xr_callS [v0, v1, v2] r dX8_set_23 rfl
theorem eX8_set_26 {x : Int32} : wX8_set B ad K 26 L (.int x :: r) σ ↔ (if x = 0 then wX8_set B ad K 41 L r σ else wX8_set B ad K 29 L r σ) := (xr_if_eq dX8_set_26 (by decide)).trans x_ite
theorem eX8_set_29 : wX8_set B ad K 29 L r σ ↔ ∃ v, L[3]? = some (.int v) ∧ wX8_set B ad K 30 L (.int v :: r) σ := xr_iload_n dX8_set_29
theorem eX8_set_30 {x : Int32} : wX8_set B ad K 30 L (.int x :: r) σ ↔ wX8_set B ad K 31 L (.long x.toInt64 :: r) σ := xr_i2l dX8_set_30
theorem eX8_set_31 : wX8_set B ad K 31 L r σ ↔ wX8_set B ad K 32 L (.long 0 :: r) σ := xr_lconst dX8_set_31 (by decide)
theorem eX8_set_32 : wX8_set B ad K 32 L r σ ↔ wX8_set B ad K 35 L (.long 10000000 :: r) σ := xr_ldc2 dX8_set_32 rfl
theorem eX8_set_35 {v0 v1 v2 : Value} : wX8_set B ad K 35 L (v2 :: v1 :: v0 :: r) σ ↔ ((r.map fun v => v.category).sum ≤ 8 ∧ x_cl (eX8_in B ad) [v0, v1, v2] σ (fun v g => wX8_set B ad K 38 L (v.toList ++ r) g)) := xr_callS [v0, v1, v2] r dX8_set_35 rfl
theorem eX8_set_38 {x : Int32} : wX8_set B ad K 38 L (.int x :: r) σ ↔ (if x = 0 then wX8_set B ad K 41 L r σ else wX8_set B ad K 44 L r σ) := (xr_if_ne dX8_set_38 (by decide)).trans x_ite
theorem eX8_set_41 : wX8_set B ad K 41 L r σ ↔ wX8_set B ad K 43 L (.int (-2) :: r) σ := xr_bipush dX8_set_41 (by decide)
theorem eX8_set_43 {x : Int32} : wX8_set B ad K 43 L [.int x] σ ↔ K (some (.int x)) σ := xr_ireturn dX8_set_43
theorem eX8_set_44 : wX8_set B ad K 44 L r σ ↔ ∃ v, L[0]? = some v ∧ x_rfv v ∧ wX8_set B ad K 45 L (v :: r) σ := xr_aload_n dX8_set_44
theorem eX8_set_45 : wX8_set B ad K 45 L r σ ↔ ∃ v, L[1]? = some (.int v) ∧ wX8_set B ad K 46 L (.int v :: r) σ := xr_iload_n dX8_set_45
theorem eX8_set_46 {x : Int32} {a : Nat} : wX8_set B ad K 46 L (.int x :: .ref a :: r) σ ↔ ∃ fs, σ.1 a = some (8, fs) ∧ 12 < fs.length ∧ B ≤ a ∧ wX8_set B ad K 49 L r (x_up σ.1 a (8, fs.set 12 (.int x)), σ.2) := xr_put_i (t := 8) (j := 12) dX8_set_46 rfl (by decide)
theorem eX8_set_49 : wX8_set B ad K 49 L r σ ↔ ∃ v, L[0]? = some v ∧ x_rfv v ∧ wX8_set B ad K 50 L (v :: r) σ := xr_aload_n dX8_set_49
theorem eX8_set_50 : wX8_set B ad K 50 L r σ ↔ ∃ v, L[2]? = some (.int v) ∧ wX8_set B ad K 51 L (.int v :: r) σ := xr_iload_n dX8_set_50
theorem eX8_set_51 {x : Int32} {a : Nat} : wX8_set B ad K 51 L (.int x :: .ref a :: r) σ ↔ ∃ fs, σ.1 a = some (8, fs) ∧ 13 < fs.length ∧ B ≤ a ∧ wX8_set B ad K 54 L r (x_up σ.1 a (8, fs.set 13 (.int x)), σ.2) := xr_put_i (t := 8) (j := 13) dX8_set_51 rfl (by decide)
theorem eX8_set_54 : wX8_set B ad K 54 L r σ ↔ ∃ v, L[0]? = some v ∧ x_rfv v ∧ wX8_set B ad K 55 L (v :: r) σ := xr_aload_n dX8_set_54
theorem eX8_set_55 : wX8_set B ad K 55 L r σ ↔ ∃ v, L[3]? = some (.int v) ∧ wX8_set B ad K 56 L (.int v :: r) σ := xr_iload_n dX8_set_55
theorem eX8_set_56 {x : Int32} {a : Nat} : wX8_set B ad K 56 L (.int x :: .ref a :: r) σ ↔ ∃ fs, σ.1 a = some (8, fs) ∧ 14 < fs.length ∧ B ≤ a ∧ wX8_set B ad K 59 L r (x_up σ.1 a (8, fs.set 14 (.int x)), σ.2) := xr_put_i (t := 8) (j := 14) dX8_set_56 rfl (by decide)
theorem eX8_set_59 : wX8_set B ad K 59 L r σ ↔ ∃ v, L[0]? = some v ∧ x_rfv v ∧ wX8_set B ad K 60 L (v :: r) σ := xr_aload_n dX8_set_59
theorem eX8_set_60 {a : Nat} : wX8_set B ad K 60 L (.ref a :: r) σ ↔ ∃ fs v, σ.1 a = some (8, fs) ∧ fs[18]? = some v ∧ wX8_set B ad K 63 L (v :: r) σ := xr_getfield (t := 8) (j := 18) dX8_set_60 rfl
theorem eX8_set_63 {x : Int32} : wX8_set B ad K 63 L (.int x :: r) σ ↔ (if x = 0 then wX8_set B ad K 66 L r σ else wX8_set B ad K 70 L r σ) := (xr_if_ne dX8_set_63 (by decide)).trans x_ite
theorem eX8_set_66 : wX8_set B ad K 66 L r σ ↔ ∃ v, L[0]? = some v ∧ x_rfv v ∧ wX8_set B ad K 67 L (v :: r) σ := xr_aload_n dX8_set_66
theorem eX8_set_67 {v0 : Value} : wX8_set B ad K 67 L (v0 :: r) σ ↔ ((r.map fun v => v.category).sum ≤ 8 ∧ x_cl (x_v 8 (eX8_begin B ad)) [v0] σ (fun v g => wX8_set B ad K 70 L (v.toList ++ r) g)) := xr_callV [v0] r dX8_set_67 rfl
theorem eX8_set_70 : wX8_set B ad K 70 L r σ ↔ wX8_set B ad K 71 L (.int 1 :: r) σ := xr_iconst dX8_set_70 (by decide)
theorem eX8_set_71 {x : Int32} : wX8_set B ad K 71 L [.int x] σ ↔ K (some (.int x)) σ := xr_ireturn dX8_set_71
end
abbrev wX8_cls (B : Nat) (ad : Nat → Nat) (K : xK) : Nat → List Value → List Value → xW → Prop := x_WP B (some .int) (cxX8_cls B ad) cX8_cls K
section
variable {B : Nat} {ad : Nat → Nat} {K : xK} {L r : List Value} {σ : xW}
theorem eX8_cls_0 : wX8_cls B ad K 0 L r σ ↔ ∃ v, L[0]? = some v ∧ x_rfv v ∧ wX8_cls B ad K 1 L (v :: r) σ := xr_aload_n dX8_cls_0
theorem eX8_cls_1 : wX8_cls B ad K 1 L r σ ↔ wX8_cls B ad K 2 L (.int 0 :: r) σ := xr_iconst dX8_cls_1 (by decide)
theorem eX8_cls_2 {x : Int32} {a : Nat} : wX8_cls B ad K 2 L (.int x :: .ref a :: r) σ ↔ ∃ fs, σ.1 a = some (8, fs) ∧ 0 < fs.length ∧ B ≤ a ∧ wX8_cls B ad K 5 L r (x_up σ.1 a (8, fs.set 0 (.int x)), σ.2) := xr_put_i (t := 8) (j := 0) dX8_cls_2 rfl (by decide)
theorem eX8_cls_5 : wX8_cls B ad K 5 L r σ ↔ ∃ v, L[1]? = some (.int v) ∧ wX8_cls B ad K 6 L (.int v :: r) σ := xr_iload_n dX8_cls_5
theorem eX8_cls_6 {x : Int32} : wX8_cls B ad K 6 L (.int x :: r) σ ↔ wX8_cls B ad K 7 L (.long x.toInt64 :: r) σ := xr_i2l dX8_cls_6
theorem eX8_cls_7 : wX8_cls B ad K 7 L r σ ↔ wX8_cls B ad K 8 L (.long 0 :: r) σ := xr_lconst dX8_cls_7 (by decide)
theorem eX8_cls_8 : wX8_cls B ad K 8 L r σ ↔ wX8_cls B ad K 11 L (.long 10000000 :: r) σ := xr_ldc2 dX8_cls_8 rfl
theorem eX8_cls_11 {v0 v1 v2 : Value} : wX8_cls B ad K 11 L (v2 :: v1 :: v0 :: r) σ ↔ ((r.map fun v => v.category).sum ≤ 8 ∧ x_cl (eX8_in B ad) [v0, v1, v2] σ (fun v g => wX8_cls B ad K 14 L (v.toList ++ r) g)) := xr_callS [v0, v1, v2] r dX8_cls_11 rfl
theorem eX8_cls_14 {x : Int32} : wX8_cls B ad K 14 L (.int x :: r) σ ↔ (if x = 0 then wX8_cls B ad K 54 L r σ else wX8_cls B ad K 17 L r σ) := (xr_if_eq dX8_cls_14 (by decide)).trans x_ite
theorem eX8_cls_17 : wX8_cls B ad K 17 L r σ ↔ ∃ v, L[2]? = some (.int v) ∧ wX8_cls B ad K 18 L (.int v :: r) σ := xr_iload_n dX8_cls_17
theorem eX8_cls_18 {x : Int32} : wX8_cls B ad K 18 L (.int x :: r) σ ↔ wX8_cls B ad K 19 L (.long x.toInt64 :: r) σ := xr_i2l dX8_cls_18
theorem eX8_cls_19 : wX8_cls B ad K 19 L r σ ↔ wX8_cls B ad K 20 L (.long 0 :: r) σ := xr_lconst dX8_cls_19 (by decide)
theorem eX8_cls_20 : wX8_cls B ad K 20 L r σ ↔ wX8_cls B ad K 23 L (.long 2000 :: r) σ := xr_ldc2 dX8_cls_20 rfl
theorem eX8_cls_23 {v0 v1 v2 : Value} : wX8_cls B ad K 23 L (v2 :: v1 :: v0 :: r) σ ↔ ((r.map fun v => v.category).sum ≤ 8 ∧ x_cl (eX8_in B ad) [v0, v1, v2] σ (fun v g => wX8_cls B ad K 26 L (v.toList ++ r) g)) := xr_callS [v0, v1, v2] r dX8_cls_23 rfl
theorem eX8_cls_26 {x : Int32} : wX8_cls B ad K 26 L (.int x :: r) σ ↔ (if x = 0 then wX8_cls B ad K 54 L r σ else wX8_cls B ad K 29 L r σ) := (xr_if_eq dX8_cls_26 (by decide)).trans x_ite
theorem eX8_cls_29 : wX8_cls B ad K 29 L r σ ↔ ∃ v, L[3]? = some (.int v) ∧ wX8_cls B ad K 30 L (.int v :: r) σ := xr_iload_n dX8_cls_29
theorem eX8_cls_30 {x : Int32} : wX8_cls B ad K 30 L (.int x :: r) σ ↔ wX8_cls B ad K 31 L (.long x.toInt64 :: r) σ := xr_i2l dX8_cls_30
theorem eX8_cls_31 : wX8_cls B ad K 31 L r σ ↔ wX8_cls B ad K 32 L (.long 0 :: r) σ := xr_lconst dX8_cls_31 (by decide)
theorem eX8_cls_32 : wX8_cls B ad K 32 L r σ ↔ wX8_cls B ad K 35 L (.long 10000 :: r) σ := xr_ldc2 dX8_cls_32 rfl
theorem eX8_cls_35 {v0 v1 v2 : Value} : wX8_cls B ad K 35 L (v2 :: v1 :: v0 :: r) σ ↔ ((r.map fun v => v.category).sum ≤ 8 ∧ x_cl (eX8_in B ad) [v0, v1, v2] σ (fun v g => wX8_cls B ad K 38 L (v.toList ++ r) g)) := xr_callS [v0, v1, v2] r dX8_cls_35 rfl
theorem eX8_cls_38 {x : Int32} : wX8_cls B ad K 38 L (.int x :: r) σ ↔ (if x = 0 then wX8_cls B ad K 54 L r σ else wX8_cls B ad K 41 L r σ) := (xr_if_eq dX8_cls_38 (by decide)).trans x_ite
theorem eX8_cls_41 : wX8_cls B ad K 41 L r σ ↔ ∃ v, L[4]? = some (.int v) ∧ wX8_cls B ad K 43 L (.int v :: r) σ := xr_iload dX8_cls_41
theorem eX8_cls_43 {x : Int32} : wX8_cls B ad K 43 L (.int x :: r) σ ↔ wX8_cls B ad K 44 L (.long x.toInt64 :: r) σ := xr_i2l dX8_cls_43
theorem eX8_cls_44 : wX8_cls B ad K 44 L r σ ↔ wX8_cls B ad K 45 L (.long 0 :: r) σ := xr_lconst dX8_cls_44 (by decide)
theorem eX8_cls_45 : wX8_cls B ad K 45 L r σ ↔ wX8_cls B ad K 48 L (.long 10000 :: r) σ := xr_ldc2 dX8_cls_45 rfl
theorem eX8_cls_48 {v0 v1 v2 : Value} : wX8_cls B ad K 48 L (v2 :: v1 :: v0 :: r) σ ↔ ((r.map fun v => v.category).sum ≤ 8 ∧ x_cl (eX8_in B ad) [v0, v1, v2] σ (fun v g => wX8_cls B ad K 51 L (v.toList ++ r) g)) := xr_callS [v0, v1, v2] r dX8_cls_48 rfl
theorem eX8_cls_51 {x : Int32} : wX8_cls B ad K 51 L (.int x :: r) σ ↔ (if x = 0 then wX8_cls B ad K 54 L r σ else wX8_cls B ad K 57 L r σ) := (xr_if_ne dX8_cls_51 (by decide)).trans x_ite
theorem eX8_cls_54 : wX8_cls B ad K 54 L r σ ↔ wX8_cls B ad K 56 L (.int (-2) :: r) σ := xr_bipush dX8_cls_54 (by decide)
theorem eX8_cls_56 {x : Int32} : wX8_cls B ad K 56 L [.int x] σ ↔ K (some (.int x)) σ := xr_ireturn dX8_cls_56
theorem eX8_cls_57 : wX8_cls B ad K 57 L r σ ↔ ∃ v, L[0]? = some v ∧ x_rfv v ∧ wX8_cls B ad K 58 L (v :: r) σ := xr_aload_n dX8_cls_57
theorem eX8_cls_58 {a : Nat} : wX8_cls B ad K 58 L (.ref a :: r) σ ↔ ∃ fs v, σ.1 a = some (8, fs) ∧ fs[7]? = some v ∧ wX8_cls B ad K 61 L (v :: r) σ := xr_getfield (t := 8) (j := 7) dX8_cls_58 rfl
theorem eX8_cls_61 : wX8_cls B ad K 61 L r σ ↔ wX8_cls B ad K 62 L (.int 4 :: r) σ := xr_iconst dX8_cls_61 (by decide)
theorem eX8_cls_62 {x y : Int32} : wX8_cls B ad K 62 L (.int y :: .int x :: r) σ ↔ (if x = y then wX8_cls B ad K 65 L r σ else wX8_cls B ad K 68 L r σ) := (xr_icmp_ne dX8_cls_62 (by decide)).trans x_ite
theorem eX8_cls_65 : wX8_cls B ad K 65 L r σ ↔ wX8_cls B ad K 67 L (.int (-4) :: r) σ := xr_bipush dX8_cls_65 (by decide)
theorem eX8_cls_67 {x : Int32} : wX8_cls B ad K 67 L [.int x] σ ↔ K (some (.int x)) σ := xr_ireturn dX8_cls_67
theorem eX8_cls_68 : wX8_cls B ad K 68 L r σ ↔ ∃ v, L[0]? = some v ∧ x_rfv v ∧ wX8_cls B ad K 69 L (v :: r) σ := xr_aload_n dX8_cls_68
theorem eX8_cls_69 {a : Nat} : wX8_cls B ad K 69 L (.ref a :: r) σ ↔ ∃ fs v, σ.1 a = some (8, fs) ∧ fs[8]? = some v ∧ wX8_cls B ad K 72 L (v :: r) σ := xr_getfield (t := 8) (j := 8) dX8_cls_69 rfl
theorem eX8_cls_72 : wX8_cls B ad K 72 L r σ ↔ ∃ v, L[0]? = some v ∧ x_rfv v ∧ wX8_cls B ad K 73 L (v :: r) σ := xr_aload_n dX8_cls_72
theorem eX8_cls_73 {a : Nat} : wX8_cls B ad K 73 L (.ref a :: r) σ ↔ ∃ fs v, σ.1 a = some (8, fs) ∧ fs[7]? = some v ∧ wX8_cls B ad K 76 L (v :: r) σ := xr_getfield (t := 8) (j := 7) dX8_cls_73 rfl
theorem eX8_cls_76 : wX8_cls B ad K 76 L r σ ↔ ∃ v, L[1]? = some (.int v) ∧ wX8_cls B ad K 77 L (.int v :: r) σ := xr_iload_n dX8_cls_76
theorem eX8_cls_77 {a : Nat} {j : Int32} {x : Int32} : wX8_cls B ad K 77 L (.int x :: .int j :: .ref a :: r) σ ↔ ∃ V, σ.1 a = some (100, V) ∧ (x_ix j V).isSome ∧ B ≤ a ∧ wX8_cls B ad K 78 L r (x_up σ.1 a (100, V.set j.toInt.toNat (.int x)), σ.2) := xr_iastore dX8_cls_77
theorem eX8_cls_78 : wX8_cls B ad K 78 L r σ ↔ ∃ v, L[0]? = some v ∧ x_rfv v ∧ wX8_cls B ad K 79 L (v :: r) σ := xr_aload_n dX8_cls_78
theorem eX8_cls_79 {a : Nat} : wX8_cls B ad K 79 L (.ref a :: r) σ ↔ ∃ fs v, σ.1 a = some (8, fs) ∧ fs[9]? = some v ∧ wX8_cls B ad K 82 L (v :: r) σ := xr_getfield (t := 8) (j := 9) dX8_cls_79 rfl
theorem eX8_cls_82 : wX8_cls B ad K 82 L r σ ↔ ∃ v, L[0]? = some v ∧ x_rfv v ∧ wX8_cls B ad K 83 L (v :: r) σ := xr_aload_n dX8_cls_82
theorem eX8_cls_83 {a : Nat} : wX8_cls B ad K 83 L (.ref a :: r) σ ↔ ∃ fs v, σ.1 a = some (8, fs) ∧ fs[7]? = some v ∧ wX8_cls B ad K 86 L (v :: r) σ := xr_getfield (t := 8) (j := 7) dX8_cls_83 rfl
theorem eX8_cls_86 : wX8_cls B ad K 86 L r σ ↔ ∃ v, L[2]? = some (.int v) ∧ wX8_cls B ad K 87 L (.int v :: r) σ := xr_iload_n dX8_cls_86
theorem eX8_cls_87 {a : Nat} {j : Int32} {x : Int32} : wX8_cls B ad K 87 L (.int x :: .int j :: .ref a :: r) σ ↔ ∃ V, σ.1 a = some (100, V) ∧ (x_ix j V).isSome ∧ B ≤ a ∧ wX8_cls B ad K 88 L r (x_up σ.1 a (100, V.set j.toInt.toNat (.int x)), σ.2) := xr_iastore dX8_cls_87
theorem eX8_cls_88 : wX8_cls B ad K 88 L r σ ↔ ∃ v, L[0]? = some v ∧ x_rfv v ∧ wX8_cls B ad K 89 L (v :: r) σ := xr_aload_n dX8_cls_88
theorem eX8_cls_89 {a : Nat} : wX8_cls B ad K 89 L (.ref a :: r) σ ↔ ∃ fs v, σ.1 a = some (8, fs) ∧ fs[10]? = some v ∧ wX8_cls B ad K 92 L (v :: r) σ := xr_getfield (t := 8) (j := 10) dX8_cls_89 rfl
theorem eX8_cls_92 : wX8_cls B ad K 92 L r σ ↔ ∃ v, L[0]? = some v ∧ x_rfv v ∧ wX8_cls B ad K 93 L (v :: r) σ := xr_aload_n dX8_cls_92
theorem eX8_cls_93 {a : Nat} : wX8_cls B ad K 93 L (.ref a :: r) σ ↔ ∃ fs v, σ.1 a = some (8, fs) ∧ fs[7]? = some v ∧ wX8_cls B ad K 96 L (v :: r) σ := xr_getfield (t := 8) (j := 7) dX8_cls_93 rfl
theorem eX8_cls_96 : wX8_cls B ad K 96 L r σ ↔ ∃ v, L[3]? = some (.int v) ∧ wX8_cls B ad K 97 L (.int v :: r) σ := xr_iload_n dX8_cls_96
theorem eX8_cls_97 {a : Nat} {j : Int32} {x : Int32} : wX8_cls B ad K 97 L (.int x :: .int j :: .ref a :: r) σ ↔ ∃ V, σ.1 a = some (100, V) ∧ (x_ix j V).isSome ∧ B ≤ a ∧ wX8_cls B ad K 98 L r (x_up σ.1 a (100, V.set j.toInt.toNat (.int x)), σ.2) := xr_iastore dX8_cls_97
theorem eX8_cls_98 : wX8_cls B ad K 98 L r σ ↔ ∃ v, L[0]? = some v ∧ x_rfv v ∧ wX8_cls B ad K 99 L (v :: r) σ := xr_aload_n dX8_cls_98
theorem eX8_cls_99 {a : Nat} : wX8_cls B ad K 99 L (.ref a :: r) σ ↔ ∃ fs v, σ.1 a = some (8, fs) ∧ fs[11]? = some v ∧ wX8_cls B ad K 102 L (v :: r) σ := xr_getfield (t := 8) (j := 11) dX8_cls_99 rfl
theorem eX8_cls_102 : wX8_cls B ad K 102 L r σ ↔ ∃ v, L[0]? = some v ∧ x_rfv v ∧ wX8_cls B ad K 103 L (v :: r) σ := xr_aload_n dX8_cls_102
theorem eX8_cls_103 {a : Nat} : wX8_cls B ad K 103 L (.ref a :: r) σ ↔ ∃ fs v, σ.1 a = some (8, fs) ∧ fs[7]? = some v ∧ wX8_cls B ad K 106 L (v :: r) σ := xr_getfield (t := 8) (j := 7) dX8_cls_103 rfl
theorem eX8_cls_106 : wX8_cls B ad K 106 L r σ ↔ ∃ v, L[4]? = some (.int v) ∧ wX8_cls B ad K 108 L (.int v :: r) σ := xr_iload dX8_cls_106
theorem eX8_cls_108 {a : Nat} {j : Int32} {x : Int32} : wX8_cls B ad K 108 L (.int x :: .int j :: .ref a :: r) σ ↔ ∃ V, σ.1 a = some (100, V) ∧ (x_ix j V).isSome ∧ B ≤ a ∧ wX8_cls B ad K 109 L r (x_up σ.1 a (100, V.set j.toInt.toNat (.int x)), σ.2) := xr_iastore dX8_cls_108
theorem eX8_cls_109 : wX8_cls B ad K 109 L r σ ↔ ∃ v, L[0]? = some v ∧ x_rfv v ∧ wX8_cls B ad K 110 L (v :: r) σ := xr_aload_n dX8_cls_109
theorem eX8_cls_110 {v : Value} : wX8_cls B ad K 110 L (v :: r) σ ↔ (v.category = 1 ∧ wX8_cls B ad K 111 L (v :: v :: r) σ) := xr_dup dX8_cls_110
theorem eX8_cls_111 {a : Nat} : wX8_cls B ad K 111 L (.ref a :: r) σ ↔ ∃ fs v, σ.1 a = some (8, fs) ∧ fs[7]? = some v ∧ wX8_cls B ad K 114 L (v :: r) σ := xr_getfield (t := 8) (j := 7) dX8_cls_111 rfl
theorem eX8_cls_114 : wX8_cls B ad K 114 L r σ ↔ wX8_cls B ad K 115 L (.int 1 :: r) σ := xr_iconst dX8_cls_114 (by decide)
theorem eX8_cls_115 {x y : Int32} : wX8_cls B ad K 115 L (.int y :: .int x :: r) σ ↔ wX8_cls B ad K 116 L (.int (x + y) :: r) σ := xr_iadd dX8_cls_115
theorem eX8_cls_116 {x : Int32} {a : Nat} : wX8_cls B ad K 116 L (.int x :: .ref a :: r) σ ↔ ∃ fs, σ.1 a = some (8, fs) ∧ 7 < fs.length ∧ B ≤ a ∧ wX8_cls B ad K 119 L r (x_up σ.1 a (8, fs.set 7 (.int x)), σ.2) := xr_put_i (t := 8) (j := 7) dX8_cls_116 rfl (by decide)
theorem eX8_cls_119 : wX8_cls B ad K 119 L r σ ↔ ∃ v, L[0]? = some v ∧ x_rfv v ∧ wX8_cls B ad K 120 L (v :: r) σ := xr_aload_n dX8_cls_119
theorem eX8_cls_120 {a : Nat} : wX8_cls B ad K 120 L (.ref a :: r) σ ↔ ∃ fs v, σ.1 a = some (8, fs) ∧ fs[7]? = some v ∧ wX8_cls B ad K 123 L (v :: r) σ := xr_getfield (t := 8) (j := 7) dX8_cls_120 rfl
theorem eX8_cls_123 : wX8_cls B ad K 123 L r σ ↔ wX8_cls B ad K 124 L (.int 1 :: r) σ := xr_iconst dX8_cls_123 (by decide)
theorem eX8_cls_124 {x y : Int32} : wX8_cls B ad K 124 L (.int y :: .int x :: r) σ ↔ wX8_cls B ad K 125 L (.int (x - y) :: r) σ := xr_isub dX8_cls_124
theorem eX8_cls_125 {x : Int32} : wX8_cls B ad K 125 L [.int x] σ ↔ K (some (.int x)) σ := xr_ireturn dX8_cls_125
end
abbrev wX8_add (B : Nat) (ad : Nat → Nat) (K : xK) : Nat → List Value → List Value → xW → Prop := x_WP B (some .int) (cxX8_add B ad) cX8_add K
section
variable {B : Nat} {ad : Nat → Nat} {K : xK} {L r : List Value} {σ : xW}
theorem eX8_add_0 : wX8_add B ad K 0 L r σ ↔ ∃ v, L[0]? = some v ∧ x_rfv v ∧ wX8_add B ad K 1 L (v :: r) σ := xr_aload_n dX8_add_0
theorem eX8_add_1 {a : Nat} : wX8_add B ad K 1 L (.ref a :: r) σ ↔ ∃ fs v, σ.1 a = some (8, fs) ∧ fs[1]? = some v ∧ wX8_add B ad K 4 L (v :: r) σ := xr_getfield (t := 8) (j := 1) dX8_add_1 rfl
theorem eX8_add_4 : wX8_add B ad K 4 L r σ ↔ wX8_add B ad K 7 L (.int 400 :: r) σ := xr_sipush dX8_add_4 (by decide)
theorem eX8_add_7 {x y : Int32} : wX8_add B ad K 7 L (.int y :: .int x :: r) σ ↔ (if x = y then wX8_add B ad K 10 L r σ else wX8_add B ad K 13 L r σ) := (xr_icmp_ne dX8_add_7 (by decide)).trans x_ite
theorem eX8_add_10 : wX8_add B ad K 10 L r σ ↔ wX8_add B ad K 12 L (.int (-4) :: r) σ := xr_bipush dX8_add_10 (by decide)
theorem eX8_add_12 {x : Int32} : wX8_add B ad K 12 L [.int x] σ ↔ K (some (.int x)) σ := xr_ireturn dX8_add_12
theorem eX8_add_13 : wX8_add B ad K 13 L r σ ↔ ∃ v, L[0]? = some v ∧ x_rfv v ∧ wX8_add B ad K 14 L (v :: r) σ := xr_aload_n dX8_add_13
theorem eX8_add_14 {a : Nat} : wX8_add B ad K 14 L (.ref a :: r) σ ↔ ∃ fs v, σ.1 a = some (8, fs) ∧ fs[2]? = some v ∧ wX8_add B ad K 17 L (v :: r) σ := xr_getfield (t := 8) (j := 2) dX8_add_14 rfl
theorem eX8_add_17 : wX8_add B ad K 17 L r σ ↔ ∃ v, L[0]? = some v ∧ x_rfv v ∧ wX8_add B ad K 18 L (v :: r) σ := xr_aload_n dX8_add_17
theorem eX8_add_18 {a : Nat} : wX8_add B ad K 18 L (.ref a :: r) σ ↔ ∃ fs v, σ.1 a = some (8, fs) ∧ fs[1]? = some v ∧ wX8_add B ad K 21 L (v :: r) σ := xr_getfield (t := 8) (j := 1) dX8_add_18 rfl
theorem eX8_add_21 : wX8_add B ad K 21 L r σ ↔ ∃ v, L[1]? = some (.int v) ∧ wX8_add B ad K 22 L (.int v :: r) σ := xr_iload_n dX8_add_21
theorem eX8_add_22 {a : Nat} {j : Int32} {x : Int32} : wX8_add B ad K 22 L (.int x :: .int j :: .ref a :: r) σ ↔ ∃ V, σ.1 a = some (100, V) ∧ (x_ix j V).isSome ∧ B ≤ a ∧ wX8_add B ad K 23 L r (x_up σ.1 a (100, V.set j.toInt.toNat (.int x)), σ.2) := xr_iastore dX8_add_22
theorem eX8_add_23 : wX8_add B ad K 23 L r σ ↔ ∃ v, L[0]? = some v ∧ x_rfv v ∧ wX8_add B ad K 24 L (v :: r) σ := xr_aload_n dX8_add_23
theorem eX8_add_24 {a : Nat} : wX8_add B ad K 24 L (.ref a :: r) σ ↔ ∃ fs v, σ.1 a = some (8, fs) ∧ fs[3]? = some v ∧ wX8_add B ad K 27 L (v :: r) σ := xr_getfield (t := 8) (j := 3) dX8_add_24 rfl
theorem eX8_add_27 : wX8_add B ad K 27 L r σ ↔ ∃ v, L[0]? = some v ∧ x_rfv v ∧ wX8_add B ad K 28 L (v :: r) σ := xr_aload_n dX8_add_27
theorem eX8_add_28 {a : Nat} : wX8_add B ad K 28 L (.ref a :: r) σ ↔ ∃ fs v, σ.1 a = some (8, fs) ∧ fs[1]? = some v ∧ wX8_add B ad K 31 L (v :: r) σ := xr_getfield (t := 8) (j := 1) dX8_add_28 rfl
theorem eX8_add_31 : wX8_add B ad K 31 L r σ ↔ ∃ v, L[2]? = some (.int v) ∧ wX8_add B ad K 32 L (.int v :: r) σ := xr_iload_n dX8_add_31
theorem eX8_add_32 {a : Nat} {j : Int32} {x : Int32} : wX8_add B ad K 32 L (.int x :: .int j :: .ref a :: r) σ ↔ ∃ V, σ.1 a = some (100, V) ∧ (x_ix j V).isSome ∧ B ≤ a ∧ wX8_add B ad K 33 L r (x_up σ.1 a (100, V.set j.toInt.toNat (.int x)), σ.2) := xr_iastore dX8_add_32
theorem eX8_add_33 : wX8_add B ad K 33 L r σ ↔ ∃ v, L[0]? = some v ∧ x_rfv v ∧ wX8_add B ad K 34 L (v :: r) σ := xr_aload_n dX8_add_33
theorem eX8_add_34 {a : Nat} : wX8_add B ad K 34 L (.ref a :: r) σ ↔ ∃ fs v, σ.1 a = some (8, fs) ∧ fs[4]? = some v ∧ wX8_add B ad K 37 L (v :: r) σ := xr_getfield (t := 8) (j := 4) dX8_add_34 rfl
theorem eX8_add_37 : wX8_add B ad K 37 L r σ ↔ ∃ v, L[0]? = some v ∧ x_rfv v ∧ wX8_add B ad K 38 L (v :: r) σ := xr_aload_n dX8_add_37
theorem eX8_add_38 {a : Nat} : wX8_add B ad K 38 L (.ref a :: r) σ ↔ ∃ fs v, σ.1 a = some (8, fs) ∧ fs[1]? = some v ∧ wX8_add B ad K 41 L (v :: r) σ := xr_getfield (t := 8) (j := 1) dX8_add_38 rfl
theorem eX8_add_41 : wX8_add B ad K 41 L r σ ↔ ∃ v, L[3]? = some (.int v) ∧ wX8_add B ad K 42 L (.int v :: r) σ := xr_iload_n dX8_add_41
theorem eX8_add_42 {a : Nat} {j : Int32} {x : Int32} : wX8_add B ad K 42 L (.int x :: .int j :: .ref a :: r) σ ↔ ∃ V, σ.1 a = some (100, V) ∧ (x_ix j V).isSome ∧ B ≤ a ∧ wX8_add B ad K 43 L r (x_up σ.1 a (100, V.set j.toInt.toNat (.int x)), σ.2) := xr_iastore dX8_add_42
theorem eX8_add_43 : wX8_add B ad K 43 L r σ ↔ ∃ v, L[0]? = some v ∧ x_rfv v ∧ wX8_add B ad K 44 L (v :: r) σ := xr_aload_n dX8_add_43
theorem eX8_add_44 {a : Nat} : wX8_add B ad K 44 L (.ref a :: r) σ ↔ ∃ fs v, σ.1 a = some (8, fs) ∧ fs[5]? = some v ∧ wX8_add B ad K 47 L (v :: r) σ := xr_getfield (t := 8) (j := 5) dX8_add_44 rfl
theorem eX8_add_47 : wX8_add B ad K 47 L r σ ↔ ∃ v, L[0]? = some v ∧ x_rfv v ∧ wX8_add B ad K 48 L (v :: r) σ := xr_aload_n dX8_add_47
theorem eX8_add_48 {a : Nat} : wX8_add B ad K 48 L (.ref a :: r) σ ↔ ∃ fs v, σ.1 a = some (8, fs) ∧ fs[1]? = some v ∧ wX8_add B ad K 51 L (v :: r) σ := xr_getfield (t := 8) (j := 1) dX8_add_48 rfl
theorem eX8_add_51 : wX8_add B ad K 51 L r σ ↔ ∃ v, L[4]? = some (.int v) ∧ wX8_add B ad K 53 L (.int v :: r) σ := xr_iload dX8_add_51
theorem eX8_add_53 {a : Nat} {j : Int32} {x : Int32} : wX8_add B ad K 53 L (.int x :: .int j :: .ref a :: r) σ ↔ ∃ V, σ.1 a = some (100, V) ∧ (x_ix j V).isSome ∧ B ≤ a ∧ wX8_add B ad K 54 L r (x_up σ.1 a (100, V.set j.toInt.toNat (.int x)), σ.2) := xr_iastore dX8_add_53
theorem eX8_add_54 : wX8_add B ad K 54 L r σ ↔ ∃ v, L[0]? = some v ∧ x_rfv v ∧ wX8_add B ad K 55 L (v :: r) σ := xr_aload_n dX8_add_54
theorem eX8_add_55 {a : Nat} : wX8_add B ad K 55 L (.ref a :: r) σ ↔ ∃ fs v, σ.1 a = some (8, fs) ∧ fs[6]? = some v ∧ wX8_add B ad K 58 L (v :: r) σ := xr_getfield (t := 8) (j := 6) dX8_add_55 rfl
theorem eX8_add_58 : wX8_add B ad K 58 L r σ ↔ ∃ v, L[0]? = some v ∧ x_rfv v ∧ wX8_add B ad K 59 L (v :: r) σ := xr_aload_n dX8_add_58
theorem eX8_add_59 {a : Nat} : wX8_add B ad K 59 L (.ref a :: r) σ ↔ ∃ fs v, σ.1 a = some (8, fs) ∧ fs[1]? = some v ∧ wX8_add B ad K 62 L (v :: r) σ := xr_getfield (t := 8) (j := 1) dX8_add_59 rfl
theorem eX8_add_62 : wX8_add B ad K 62 L r σ ↔ ∃ v, L[5]? = some (.int v) ∧ wX8_add B ad K 64 L (.int v :: r) σ := xr_iload dX8_add_62
theorem eX8_add_64 {a : Nat} {j : Int32} {x : Int32} : wX8_add B ad K 64 L (.int x :: .int j :: .ref a :: r) σ ↔ ∃ V, σ.1 a = some (100, V) ∧ (x_ix j V).isSome ∧ B ≤ a ∧ wX8_add B ad K 65 L r (x_up σ.1 a (100, V.set j.toInt.toNat (.int x)), σ.2) := xr_iastore dX8_add_64
theorem eX8_add_65 : wX8_add B ad K 65 L r σ ↔ ∃ v, L[0]? = some v ∧ x_rfv v ∧ wX8_add B ad K 66 L (v :: r) σ := xr_aload_n dX8_add_65
theorem eX8_add_66 {a : Nat} : wX8_add B ad K 66 L (.ref a :: r) σ ↔ ∃ fs v, σ.1 a = some (8, fs) ∧ fs[16]? = some v ∧ wX8_add B ad K 69 L (v :: r) σ := xr_getfield (t := 8) (j := 16) dX8_add_66 rfl
theorem eX8_add_69 : wX8_add B ad K 69 L r σ ↔ ∃ v, L[0]? = some v ∧ x_rfv v ∧ wX8_add B ad K 70 L (v :: r) σ := xr_aload_n dX8_add_69
theorem eX8_add_70 {a : Nat} : wX8_add B ad K 70 L (.ref a :: r) σ ↔ ∃ fs v, σ.1 a = some (8, fs) ∧ fs[15]? = some v ∧ wX8_add B ad K 73 L (v :: r) σ := xr_getfield (t := 8) (j := 15) dX8_add_70 rfl
theorem eX8_add_73 : wX8_add B ad K 73 L r σ ↔ ∃ v, L[0]? = some v ∧ x_rfv v ∧ wX8_add B ad K 74 L (v :: r) σ := xr_aload_n dX8_add_73
theorem eX8_add_74 {a : Nat} : wX8_add B ad K 74 L (.ref a :: r) σ ↔ ∃ fs v, σ.1 a = some (8, fs) ∧ fs[1]? = some v ∧ wX8_add B ad K 77 L (v :: r) σ := xr_getfield (t := 8) (j := 1) dX8_add_74 rfl
theorem eX8_add_77 {a : Nat} {j : Int32} {x : Int32} : wX8_add B ad K 77 L (.int x :: .int j :: .ref a :: r) σ ↔ ∃ V, σ.1 a = some (100, V) ∧ (x_ix j V).isSome ∧ B ≤ a ∧ wX8_add B ad K 78 L r (x_up σ.1 a (100, V.set j.toInt.toNat (.int x)), σ.2) := xr_iastore dX8_add_77
theorem eX8_add_78 : wX8_add B ad K 78 L r σ ↔ ∃ v, L[0]? = some v ∧ x_rfv v ∧ wX8_add B ad K 79 L (v :: r) σ := xr_aload_n dX8_add_78
theorem eX8_add_79 {a : Nat} : wX8_add B ad K 79 L (.ref a :: r) σ ↔ ∃ fs v, σ.1 a = some (8, fs) ∧ fs[17]? = some v ∧ wX8_add B ad K 82 L (v :: r) σ := xr_getfield (t := 8) (j := 17) dX8_add_79 rfl
theorem eX8_add_82 : wX8_add B ad K 82 L r σ ↔ ∃ v, L[0]? = some v ∧ x_rfv v ∧ wX8_add B ad K 83 L (v :: r) σ := xr_aload_n dX8_add_82
theorem eX8_add_83 {a : Nat} : wX8_add B ad K 83 L (.ref a :: r) σ ↔ ∃ fs v, σ.1 a = some (8, fs) ∧ fs[15]? = some v ∧ wX8_add B ad K 86 L (v :: r) σ := xr_getfield (t := 8) (j := 15) dX8_add_83 rfl
theorem eX8_add_86 : wX8_add B ad K 86 L r σ ↔ ∃ v, L[1]? = some (.int v) ∧ wX8_add B ad K 87 L (.int v :: r) σ := xr_iload_n dX8_add_86
theorem eX8_add_87 : wX8_add B ad K 87 L r σ ↔ wX8_add B ad K 88 L (.int 4 :: r) σ := xr_iconst dX8_add_87 (by decide)
theorem eX8_add_88 {x y : Int32} : wX8_add B ad K 88 L (.int y :: .int x :: r) σ ↔ (if x = y then wX8_add B ad K 91 L r σ else wX8_add B ad K 95 L r σ) := (xr_icmp_ne dX8_add_88 (by decide)).trans x_ite
theorem eX8_add_91 : wX8_add B ad K 91 L r σ ↔ ∃ v, L[3]? = some (.int v) ∧ wX8_add B ad K 92 L (.int v :: r) σ := xr_iload_n dX8_add_91
theorem eX8_add_92 : wX8_add B ad K 92 L r σ ↔ wX8_add B ad K 96 L r σ := xr_goto dX8_add_92 (by decide)
theorem eX8_add_95 : wX8_add B ad K 95 L r σ ↔ wX8_add B ad K 96 L (.int 0 :: r) σ := xr_iconst dX8_add_95 (by decide)
theorem eX8_add_96 {a : Nat} {j : Int32} {x : Int32} : wX8_add B ad K 96 L (.int x :: .int j :: .ref a :: r) σ ↔ ∃ V, σ.1 a = some (100, V) ∧ (x_ix j V).isSome ∧ B ≤ a ∧ wX8_add B ad K 97 L r (x_up σ.1 a (100, V.set j.toInt.toNat (.int x)), σ.2) := xr_iastore dX8_add_96
theorem eX8_add_97 : wX8_add B ad K 97 L r σ ↔ ∃ v, L[0]? = some v ∧ x_rfv v ∧ wX8_add B ad K 98 L (v :: r) σ := xr_aload_n dX8_add_97
theorem eX8_add_98 {v : Value} : wX8_add B ad K 98 L (v :: r) σ ↔ (v.category = 1 ∧ wX8_add B ad K 99 L (v :: v :: r) σ) := xr_dup dX8_add_98
theorem eX8_add_99 {a : Nat} : wX8_add B ad K 99 L (.ref a :: r) σ ↔ ∃ fs v, σ.1 a = some (8, fs) ∧ fs[15]? = some v ∧ wX8_add B ad K 102 L (v :: r) σ := xr_getfield (t := 8) (j := 15) dX8_add_99 rfl
theorem eX8_add_102 : wX8_add B ad K 102 L r σ ↔ wX8_add B ad K 103 L (.int 1 :: r) σ := xr_iconst dX8_add_102 (by decide)
theorem eX8_add_103 {x y : Int32} : wX8_add B ad K 103 L (.int y :: .int x :: r) σ ↔ wX8_add B ad K 104 L (.int (x + y) :: r) σ := xr_iadd dX8_add_103
theorem eX8_add_104 {x : Int32} {a : Nat} : wX8_add B ad K 104 L (.int x :: .ref a :: r) σ ↔ ∃ fs, σ.1 a = some (8, fs) ∧ 15 < fs.length ∧ B ≤ a ∧ wX8_add B ad K 107 L r (x_up σ.1 a (8, fs.set 15 (.int x)), σ.2) := xr_put_i (t := 8) (j := 15) dX8_add_104 rfl (by decide)
theorem eX8_add_107 : wX8_add B ad K 107 L r σ ↔ ∃ v, L[0]? = some v ∧ x_rfv v ∧ wX8_add B ad K 108 L (v :: r) σ := xr_aload_n dX8_add_107
theorem eX8_add_108 {v : Value} : wX8_add B ad K 108 L (v :: r) σ ↔ (v.category = 1 ∧ wX8_add B ad K 109 L (v :: v :: r) σ) := xr_dup dX8_add_108
theorem eX8_add_109 {a : Nat} : wX8_add B ad K 109 L (.ref a :: r) σ ↔ ∃ fs v, σ.1 a = some (8, fs) ∧ fs[1]? = some v ∧ wX8_add B ad K 112 L (v :: r) σ := xr_getfield (t := 8) (j := 1) dX8_add_109 rfl
theorem eX8_add_112 : wX8_add B ad K 112 L r σ ↔ wX8_add B ad K 113 L (.int 1 :: r) σ := xr_iconst dX8_add_112 (by decide)
theorem eX8_add_113 {x y : Int32} : wX8_add B ad K 113 L (.int y :: .int x :: r) σ ↔ wX8_add B ad K 114 L (.int (x + y) :: r) σ := xr_iadd dX8_add_113
theorem eX8_add_114 {x : Int32} {a : Nat} : wX8_add B ad K 114 L (.int x :: .ref a :: r) σ ↔ ∃ fs, σ.1 a = some (8, fs) ∧ 1 < fs.length ∧ B ≤ a ∧ wX8_add B ad K 117 L r (x_up σ.1 a (8, fs.set 1 (.int x)), σ.2) := xr_put_i (t := 8) (j := 1) dX8_add_114 rfl (by decide)
theorem eX8_add_117 : wX8_add B ad K 117 L r σ ↔ ∃ v, L[0]? = some v ∧ x_rfv v ∧ wX8_add B ad K 118 L (v :: r) σ := xr_aload_n dX8_add_117
theorem eX8_add_118 {a : Nat} : wX8_add B ad K 118 L (.ref a :: r) σ ↔ ∃ fs v, σ.1 a = some (8, fs) ∧ fs[1]? = some v ∧ wX8_add B ad K 121 L (v :: r) σ := xr_getfield (t := 8) (j := 1) dX8_add_118 rfl
theorem eX8_add_121 : wX8_add B ad K 121 L r σ ↔ wX8_add B ad K 122 L (.int 1 :: r) σ := xr_iconst dX8_add_121 (by decide)
theorem eX8_add_122 {x y : Int32} : wX8_add B ad K 122 L (.int y :: .int x :: r) σ ↔ wX8_add B ad K 123 L (.int (x - y) :: r) σ := xr_isub dX8_add_122
theorem eX8_add_123 {x : Int32} : wX8_add B ad K 123 L [.int x] σ ↔ K (some (.int x)) σ := xr_ireturn dX8_add_123
end
abbrev wX8_box (B : Nat) (ad : Nat → Nat) (K : xK) : Nat → List Value → List Value → xW → Prop := x_WP B (some .int) (cxX8_box B ad) cX8_box K
section
variable {B : Nat} {ad : Nat → Nat} {K : xK} {L r : List Value} {σ : xW}
theorem eX8_box_0 : wX8_box B ad K 0 L r σ ↔ ∃ v, L[0]? = some v ∧ x_rfv v ∧ wX8_box B ad K 1 L (v :: r) σ := xr_aload_n dX8_box_0
theorem eX8_box_1 : wX8_box B ad K 1 L r σ ↔ wX8_box B ad K 2 L (.int 0 :: r) σ := xr_iconst dX8_box_1 (by decide)
theorem eX8_box_2 {x : Int32} {a : Nat} : wX8_box B ad K 2 L (.int x :: .ref a :: r) σ ↔ ∃ fs, σ.1 a = some (8, fs) ∧ 0 < fs.length ∧ B ≤ a ∧ wX8_box B ad K 5 L r (x_up σ.1 a (8, fs.set 0 (.int x)), σ.2) := xr_put_i (t := 8) (j := 0) dX8_box_2 rfl (by decide)
theorem eX8_box_5 : wX8_box B ad K 5 L r σ ↔ ∃ v, L[1]? = some (.int v) ∧ wX8_box B ad K 6 L (.int v :: r) σ := xr_iload_n dX8_box_5
theorem eX8_box_6 {x : Int32} : wX8_box B ad K 6 L (.int x :: r) σ ↔ wX8_box B ad K 7 L (.long x.toInt64 :: r) σ := xr_i2l dX8_box_6
theorem eX8_box_7 : wX8_box B ad K 7 L r σ ↔ wX8_box B ad K 8 L (.long 0 :: r) σ := xr_lconst dX8_box_7 (by decide)
theorem eX8_box_8 : wX8_box B ad K 8 L r σ ↔ wX8_box B ad K 11 L (.long 1000000 :: r) σ := xr_ldc2 dX8_box_8 rfl
theorem eX8_box_11 {v0 v1 v2 : Value} : wX8_box B ad K 11 L (v2 :: v1 :: v0 :: r) σ ↔ ((r.map fun v => v.category).sum ≤ 8 ∧ x_cl (eX8_in B ad) [v0, v1, v2] σ (fun v g => wX8_box B ad K 14 L (v.toList ++ r) g)) := xr_callS [v0, v1, v2] r dX8_box_11 rfl
theorem eX8_box_14 {x : Int32} : wX8_box B ad K 14 L (.int x :: r) σ ↔ (if x = 0 then wX8_box B ad K 41 L r σ else wX8_box B ad K 17 L r σ) := (xr_if_eq dX8_box_14 (by decide)).trans x_ite
theorem eX8_box_17 : wX8_box B ad K 17 L r σ ↔ ∃ v, L[2]? = some (.int v) ∧ wX8_box B ad K 18 L (.int v :: r) σ := xr_iload_n dX8_box_17
theorem eX8_box_18 {x : Int32} : wX8_box B ad K 18 L (.int x :: r) σ ↔ wX8_box B ad K 19 L (.long x.toInt64 :: r) σ := xr_i2l dX8_box_18
theorem eX8_box_19 : wX8_box B ad K 19 L r σ ↔ wX8_box B ad K 20 L (.long 0 :: r) σ := xr_lconst dX8_box_19 (by decide)
theorem eX8_box_20 : wX8_box B ad K 20 L r σ ↔ wX8_box B ad K 23 L (.long 1000000 :: r) σ := xr_ldc2 dX8_box_20 rfl
theorem eX8_box_23 {v0 v1 v2 : Value} : wX8_box B ad K 23 L (v2 :: v1 :: v0 :: r) σ ↔ ((r.map fun v => v.category).sum ≤ 8 ∧ x_cl (eX8_in B ad) [v0, v1, v2] σ (fun v g => wX8_box B ad K 26 L (v.toList ++ r) g)) := xr_callS [v0, v1, v2] r dX8_box_23 rfl
theorem eX8_box_26 {x : Int32} : wX8_box B ad K 26 L (.int x :: r) σ ↔ (if x = 0 then wX8_box B ad K 41 L r σ else wX8_box B ad K 29 L r σ) := (xr_if_eq dX8_box_26 (by decide)).trans x_ite
theorem eX8_box_29 : wX8_box B ad K 29 L r σ ↔ ∃ v, L[0]? = some v ∧ x_rfv v ∧ wX8_box B ad K 30 L (v :: r) σ := xr_aload_n dX8_box_29
theorem eX8_box_30 : wX8_box B ad K 30 L r σ ↔ wX8_box B ad K 31 L (.int 0 :: r) σ := xr_iconst dX8_box_30 (by decide)
theorem eX8_box_31 : wX8_box B ad K 31 L r σ ↔ ∃ v, L[1]? = some (.int v) ∧ wX8_box B ad K 32 L (.int v :: r) σ := xr_iload_n dX8_box_31
theorem eX8_box_32 : wX8_box B ad K 32 L r σ ↔ ∃ v, L[2]? = some (.int v) ∧ wX8_box B ad K 33 L (.int v :: r) σ := xr_iload_n dX8_box_32
theorem eX8_box_33 : wX8_box B ad K 33 L r σ ↔ wX8_box B ad K 34 L (.int 0 :: r) σ := xr_iconst dX8_box_33 (by decide)
theorem eX8_box_34 : wX8_box B ad K 34 L r σ ↔ wX8_box B ad K 35 L (.int 0 :: r) σ := xr_iconst dX8_box_34 (by decide)
theorem eX8_box_35 {v0 v1 v2 v3 v4 v5 : Value} : wX8_box B ad K 35 L (v5 :: v4 :: v3 :: v2 :: v1 :: v0 :: r) σ ↔ ((r.map fun v => v.category).sum ≤ 8 ∧ x_cl (x_v 8 (eX8_add B ad)) [v0, v1, v2, v3, v4, v5] σ (fun v g => wX8_box B ad K 38 L (v.toList ++ r) g)) := xr_callV [v0, v1, v2, v3, v4, v5] r dX8_box_35 rfl
theorem eX8_box_38 : wX8_box B ad K 38 L r σ ↔ wX8_box B ad K 43 L r σ := xr_goto dX8_box_38 (by decide)
theorem eX8_box_41 : wX8_box B ad K 41 L r σ ↔ wX8_box B ad K 43 L (.int (-2) :: r) σ := xr_bipush dX8_box_41 (by decide)
theorem eX8_box_43 {x : Int32} : wX8_box B ad K 43 L [.int x] σ ↔ K (some (.int x)) σ := xr_ireturn dX8_box_43
end
abbrev wX8_glue (B : Nat) (ad : Nat → Nat) (K : xK) : Nat → List Value → List Value → xW → Prop := x_WP B (some .int) (cxX8_glue B ad) cX8_glue K
section
variable {B : Nat} {ad : Nat → Nat} {K : xK} {L r : List Value} {σ : xW}
theorem eX8_glue_0 : wX8_glue B ad K 0 L r σ ↔ ∃ v, L[0]? = some v ∧ x_rfv v ∧ wX8_glue B ad K 1 L (v :: r) σ := xr_aload_n dX8_glue_0
theorem eX8_glue_1 : wX8_glue B ad K 1 L r σ ↔ wX8_glue B ad K 2 L (.int 0 :: r) σ := xr_iconst dX8_glue_1 (by decide)
theorem eX8_glue_2 {x : Int32} {a : Nat} : wX8_glue B ad K 2 L (.int x :: .ref a :: r) σ ↔ ∃ fs, σ.1 a = some (8, fs) ∧ 0 < fs.length ∧ B ≤ a ∧ wX8_glue B ad K 5 L r (x_up σ.1 a (8, fs.set 0 (.int x)), σ.2) := xr_put_i (t := 8) (j := 0) dX8_glue_2 rfl (by decide)
theorem eX8_glue_5 : wX8_glue B ad K 5 L r σ ↔ ∃ v, L[1]? = some (.int v) ∧ wX8_glue B ad K 6 L (.int v :: r) σ := xr_iload_n dX8_glue_5
theorem eX8_glue_6 {x : Int32} : wX8_glue B ad K 6 L (.int x :: r) σ ↔ wX8_glue B ad K 7 L (.long x.toInt64 :: r) σ := xr_i2l dX8_glue_6
theorem eX8_glue_7 : wX8_glue B ad K 7 L r σ ↔ wX8_glue B ad K 10 L (.long (-1000000) :: r) σ := xr_ldc2 dX8_glue_7 rfl
theorem eX8_glue_10 : wX8_glue B ad K 10 L r σ ↔ wX8_glue B ad K 13 L (.long 1000000 :: r) σ := xr_ldc2 dX8_glue_10 rfl
theorem eX8_glue_13 {v0 v1 v2 : Value} : wX8_glue B ad K 13 L (v2 :: v1 :: v0 :: r) σ ↔ ((r.map fun v => v.category).sum ≤ 8 ∧ x_cl (eX8_in B ad) [v0, v1, v2] σ (fun v g => wX8_glue B ad K 16 L (v.toList ++ r) g)) := xr_callS [v0, v1, v2] r dX8_glue_13 rfl
theorem eX8_glue_16 {x : Int32} : wX8_glue B ad K 16 L (.int x :: r) σ ↔ (if x = 0 then wX8_glue B ad K 69 L r σ else wX8_glue B ad K 19 L r σ) := (xr_if_eq dX8_glue_16 (by decide)).trans x_ite
theorem eX8_glue_19 : wX8_glue B ad K 19 L r σ ↔ ∃ v, L[2]? = some (.int v) ∧ wX8_glue B ad K 20 L (.int v :: r) σ := xr_iload_n dX8_glue_19
theorem eX8_glue_20 {x : Int32} : wX8_glue B ad K 20 L (.int x :: r) σ ↔ wX8_glue B ad K 21 L (.long x.toInt64 :: r) σ := xr_i2l dX8_glue_20
theorem eX8_glue_21 : wX8_glue B ad K 21 L r σ ↔ wX8_glue B ad K 22 L (.long 0 :: r) σ := xr_lconst dX8_glue_21 (by decide)
theorem eX8_glue_22 : wX8_glue B ad K 22 L r σ ↔ wX8_glue B ad K 25 L (.long 1000000 :: r) σ := xr_ldc2 dX8_glue_22 rfl
theorem eX8_glue_25 {v0 v1 v2 : Value} : wX8_glue B ad K 25 L (v2 :: v1 :: v0 :: r) σ ↔ ((r.map fun v => v.category).sum ≤ 8 ∧ x_cl (eX8_in B ad) [v0, v1, v2] σ (fun v g => wX8_glue B ad K 28 L (v.toList ++ r) g)) := xr_callS [v0, v1, v2] r dX8_glue_25 rfl
theorem eX8_glue_28 {x : Int32} : wX8_glue B ad K 28 L (.int x :: r) σ ↔ (if x = 0 then wX8_glue B ad K 69 L r σ else wX8_glue B ad K 31 L r σ) := (xr_if_eq dX8_glue_28 (by decide)).trans x_ite
theorem eX8_glue_31 : wX8_glue B ad K 31 L r σ ↔ ∃ v, L[3]? = some (.int v) ∧ wX8_glue B ad K 32 L (.int v :: r) σ := xr_iload_n dX8_glue_31
theorem eX8_glue_32 {x : Int32} : wX8_glue B ad K 32 L (.int x :: r) σ ↔ wX8_glue B ad K 33 L (.long x.toInt64 :: r) σ := xr_i2l dX8_glue_32
theorem eX8_glue_33 : wX8_glue B ad K 33 L r σ ↔ wX8_glue B ad K 34 L (.long 0 :: r) σ := xr_lconst dX8_glue_33 (by decide)
theorem eX8_glue_34 : wX8_glue B ad K 34 L r σ ↔ wX8_glue B ad K 37 L (.long 3 :: r) σ := xr_ldc2 dX8_glue_34 rfl
theorem eX8_glue_37 {v0 v1 v2 : Value} : wX8_glue B ad K 37 L (v2 :: v1 :: v0 :: r) σ ↔ ((r.map fun v => v.category).sum ≤ 8 ∧ x_cl (eX8_in B ad) [v0, v1, v2] σ (fun v g => wX8_glue B ad K 40 L (v.toList ++ r) g)) := xr_callS [v0, v1, v2] r dX8_glue_37 rfl
theorem eX8_glue_40 {x : Int32} : wX8_glue B ad K 40 L (.int x :: r) σ ↔ (if x = 0 then wX8_glue B ad K 69 L r σ else wX8_glue B ad K 43 L r σ) := (xr_if_eq dX8_glue_40 (by decide)).trans x_ite
theorem eX8_glue_43 : wX8_glue B ad K 43 L r σ ↔ ∃ v, L[4]? = some (.int v) ∧ wX8_glue B ad K 45 L (.int v :: r) σ := xr_iload dX8_glue_43
theorem eX8_glue_45 {x : Int32} : wX8_glue B ad K 45 L (.int x :: r) σ ↔ wX8_glue B ad K 46 L (.long x.toInt64 :: r) σ := xr_i2l dX8_glue_45
theorem eX8_glue_46 : wX8_glue B ad K 46 L r σ ↔ wX8_glue B ad K 47 L (.long 0 :: r) σ := xr_lconst dX8_glue_46 (by decide)
theorem eX8_glue_47 : wX8_glue B ad K 47 L r σ ↔ wX8_glue B ad K 50 L (.long 1000000 :: r) σ := xr_ldc2 dX8_glue_47 rfl
theorem eX8_glue_50 {v0 v1 v2 : Value} : wX8_glue B ad K 50 L (v2 :: v1 :: v0 :: r) σ ↔ ((r.map fun v => v.category).sum ≤ 8 ∧ x_cl (eX8_in B ad) [v0, v1, v2] σ (fun v g => wX8_glue B ad K 53 L (v.toList ++ r) g)) := xr_callS [v0, v1, v2] r dX8_glue_50 rfl
theorem eX8_glue_53 {x : Int32} : wX8_glue B ad K 53 L (.int x :: r) σ ↔ (if x = 0 then wX8_glue B ad K 69 L r σ else wX8_glue B ad K 56 L r σ) := (xr_if_eq dX8_glue_53 (by decide)).trans x_ite
theorem eX8_glue_56 : wX8_glue B ad K 56 L r σ ↔ ∃ v, L[0]? = some v ∧ x_rfv v ∧ wX8_glue B ad K 57 L (v :: r) σ := xr_aload_n dX8_glue_56
theorem eX8_glue_57 : wX8_glue B ad K 57 L r σ ↔ wX8_glue B ad K 58 L (.int 1 :: r) σ := xr_iconst dX8_glue_57 (by decide)
theorem eX8_glue_58 : wX8_glue B ad K 58 L r σ ↔ ∃ v, L[1]? = some (.int v) ∧ wX8_glue B ad K 59 L (.int v :: r) σ := xr_iload_n dX8_glue_58
theorem eX8_glue_59 : wX8_glue B ad K 59 L r σ ↔ ∃ v, L[2]? = some (.int v) ∧ wX8_glue B ad K 60 L (.int v :: r) σ := xr_iload_n dX8_glue_59
theorem eX8_glue_60 : wX8_glue B ad K 60 L r σ ↔ ∃ v, L[3]? = some (.int v) ∧ wX8_glue B ad K 61 L (.int v :: r) σ := xr_iload_n dX8_glue_60
theorem eX8_glue_61 : wX8_glue B ad K 61 L r σ ↔ ∃ v, L[4]? = some (.int v) ∧ wX8_glue B ad K 63 L (.int v :: r) σ := xr_iload dX8_glue_61
theorem eX8_glue_63 {v0 v1 v2 v3 v4 v5 : Value} : wX8_glue B ad K 63 L (v5 :: v4 :: v3 :: v2 :: v1 :: v0 :: r) σ ↔ ((r.map fun v => v.category).sum ≤ 8 ∧ x_cl (x_v 8 (eX8_add B ad)) [v0, v1, v2, v3, v4, v5] σ (fun v g => wX8_glue B ad K 66 L (v.toList ++ r) g)) := xr_callV [v0, v1, v2, v3, v4, v5] r dX8_glue_63 rfl
theorem eX8_glue_66 : wX8_glue B ad K 66 L r σ ↔ wX8_glue B ad K 71 L r σ := xr_goto dX8_glue_66 (by decide)
theorem eX8_glue_69 : wX8_glue B ad K 69 L r σ ↔ wX8_glue B ad K 71 L (.int (-2) :: r) σ := xr_bipush dX8_glue_69 (by decide)
theorem eX8_glue_71 {x : Int32} : wX8_glue B ad K 71 L [.int x] σ ↔ K (some (.int x)) σ := xr_ireturn dX8_glue_71
end
abbrev wX8_kern (B : Nat) (ad : Nat → Nat) (K : xK) : Nat → List Value → List Value → xW → Prop := x_WP B (some .int) (cxX8_kern B ad) cX8_kern K
section
variable {B : Nat} {ad : Nat → Nat} {K : xK} {L r : List Value} {σ : xW}
theorem eX8_kern_0 : wX8_kern B ad K 0 L r σ ↔ ∃ v, L[0]? = some v ∧ x_rfv v ∧ wX8_kern B ad K 1 L (v :: r) σ := xr_aload_n dX8_kern_0
theorem eX8_kern_1 : wX8_kern B ad K 1 L r σ ↔ wX8_kern B ad K 2 L (.int 0 :: r) σ := xr_iconst dX8_kern_1 (by decide)
theorem eX8_kern_2 {x : Int32} {a : Nat} : wX8_kern B ad K 2 L (.int x :: .ref a :: r) σ ↔ ∃ fs, σ.1 a = some (8, fs) ∧ 0 < fs.length ∧ B ≤ a ∧ wX8_kern B ad K 5 L r (x_up σ.1 a (8, fs.set 0 (.int x)), σ.2) := xr_put_i (t := 8) (j := 0) dX8_kern_2 rfl (by decide)
theorem eX8_kern_5 : wX8_kern B ad K 5 L r σ ↔ ∃ v, L[1]? = some (.int v) ∧ wX8_kern B ad K 6 L (.int v :: r) σ := xr_iload_n dX8_kern_5
theorem eX8_kern_6 {x : Int32} : wX8_kern B ad K 6 L (.int x :: r) σ ↔ wX8_kern B ad K 7 L (.long x.toInt64 :: r) σ := xr_i2l dX8_kern_6
theorem eX8_kern_7 : wX8_kern B ad K 7 L r σ ↔ wX8_kern B ad K 10 L (.long (-1000000) :: r) σ := xr_ldc2 dX8_kern_7 rfl
theorem eX8_kern_10 : wX8_kern B ad K 10 L r σ ↔ wX8_kern B ad K 13 L (.long 1000000 :: r) σ := xr_ldc2 dX8_kern_10 rfl
theorem eX8_kern_13 {v0 v1 v2 : Value} : wX8_kern B ad K 13 L (v2 :: v1 :: v0 :: r) σ ↔ ((r.map fun v => v.category).sum ≤ 8 ∧ x_cl (eX8_in B ad) [v0, v1, v2] σ (fun v g => wX8_kern B ad K 16 L (v.toList ++ r) g)) := xr_callS [v0, v1, v2] r dX8_kern_13 rfl
theorem eX8_kern_16 {x : Int32} : wX8_kern B ad K 16 L (.int x :: r) σ ↔ (if x = 0 then wX8_kern B ad K 31 L r σ else wX8_kern B ad K 19 L r σ) := (xr_if_eq dX8_kern_16 (by decide)).trans x_ite
theorem eX8_kern_19 : wX8_kern B ad K 19 L r σ ↔ ∃ v, L[0]? = some v ∧ x_rfv v ∧ wX8_kern B ad K 20 L (v :: r) σ := xr_aload_n dX8_kern_19
theorem eX8_kern_20 : wX8_kern B ad K 20 L r σ ↔ wX8_kern B ad K 21 L (.int 2 :: r) σ := xr_iconst dX8_kern_20 (by decide)
theorem eX8_kern_21 : wX8_kern B ad K 21 L r σ ↔ ∃ v, L[1]? = some (.int v) ∧ wX8_kern B ad K 22 L (.int v :: r) σ := xr_iload_n dX8_kern_21
theorem eX8_kern_22 : wX8_kern B ad K 22 L r σ ↔ wX8_kern B ad K 23 L (.int 0 :: r) σ := xr_iconst dX8_kern_22 (by decide)
theorem eX8_kern_23 : wX8_kern B ad K 23 L r σ ↔ wX8_kern B ad K 24 L (.int 0 :: r) σ := xr_iconst dX8_kern_23 (by decide)
theorem eX8_kern_24 : wX8_kern B ad K 24 L r σ ↔ wX8_kern B ad K 25 L (.int 0 :: r) σ := xr_iconst dX8_kern_24 (by decide)
theorem eX8_kern_25 {v0 v1 v2 v3 v4 v5 : Value} : wX8_kern B ad K 25 L (v5 :: v4 :: v3 :: v2 :: v1 :: v0 :: r) σ ↔ ((r.map fun v => v.category).sum ≤ 8 ∧ x_cl (x_v 8 (eX8_add B ad)) [v0, v1, v2, v3, v4, v5] σ (fun v g => wX8_kern B ad K 28 L (v.toList ++ r) g)) := xr_callV [v0, v1, v2, v3, v4, v5] r dX8_kern_25 rfl
theorem eX8_kern_28 : wX8_kern B ad K 28 L r σ ↔ wX8_kern B ad K 33 L r σ := xr_goto dX8_kern_28 (by decide)
theorem eX8_kern_31 : wX8_kern B ad K 31 L r σ ↔ wX8_kern B ad K 33 L (.int (-2) :: r) σ := xr_bipush dX8_kern_31 (by decide)
theorem eX8_kern_33 {x : Int32} : wX8_kern B ad K 33 L [.int x] σ ↔ K (some (.int x)) σ := xr_ireturn dX8_kern_33
end
abbrev wX8_penalty (B : Nat) (ad : Nat → Nat) (K : xK) : Nat → List Value → List Value → xW → Prop := x_WP B (some .int) (cxX8_penalty B ad) cX8_penalty K
section
variable {B : Nat} {ad : Nat → Nat} {K : xK} {L r : List Value} {σ : xW}
theorem eX8_penalty_0 : wX8_penalty B ad K 0 L r σ ↔ ∃ v, L[0]? = some v ∧ x_rfv v ∧ wX8_penalty B ad K 1 L (v :: r) σ := xr_aload_n dX8_penalty_0
theorem eX8_penalty_1 : wX8_penalty B ad K 1 L r σ ↔ wX8_penalty B ad K 2 L (.int 0 :: r) σ := xr_iconst dX8_penalty_1 (by decide)
theorem eX8_penalty_2 {x : Int32} {a : Nat} : wX8_penalty B ad K 2 L (.int x :: .ref a :: r) σ ↔ ∃ fs, σ.1 a = some (8, fs) ∧ 0 < fs.length ∧ B ≤ a ∧ wX8_penalty B ad K 5 L r (x_up σ.1 a (8, fs.set 0 (.int x)), σ.2) := xr_put_i (t := 8) (j := 0) dX8_penalty_2 rfl (by decide)
theorem eX8_penalty_5 : wX8_penalty B ad K 5 L r σ ↔ ∃ v, L[1]? = some (.int v) ∧ wX8_penalty B ad K 6 L (.int v :: r) σ := xr_iload_n dX8_penalty_5
theorem eX8_penalty_6 {x : Int32} : wX8_penalty B ad K 6 L (.int x :: r) σ ↔ wX8_penalty B ad K 7 L (.long x.toInt64 :: r) σ := xr_i2l dX8_penalty_6
theorem eX8_penalty_7 : wX8_penalty B ad K 7 L r σ ↔ wX8_penalty B ad K 10 L (.long (-10000) :: r) σ := xr_ldc2 dX8_penalty_7 rfl
theorem eX8_penalty_10 : wX8_penalty B ad K 10 L r σ ↔ wX8_penalty B ad K 13 L (.long 10000 :: r) σ := xr_ldc2 dX8_penalty_10 rfl
theorem eX8_penalty_13 {v0 v1 v2 : Value} : wX8_penalty B ad K 13 L (v2 :: v1 :: v0 :: r) σ ↔ ((r.map fun v => v.category).sum ≤ 8 ∧ x_cl (eX8_in B ad) [v0, v1, v2] σ (fun v g => wX8_penalty B ad K 16 L (v.toList ++ r) g)) := xr_callS [v0, v1, v2] r dX8_penalty_13 rfl
theorem eX8_penalty_16 {x : Int32} : wX8_penalty B ad K 16 L (.int x :: r) σ ↔ (if x = 0 then wX8_penalty B ad K 31 L r σ else wX8_penalty B ad K 19 L r σ) := (xr_if_eq dX8_penalty_16 (by decide)).trans x_ite
theorem eX8_penalty_19 : wX8_penalty B ad K 19 L r σ ↔ ∃ v, L[0]? = some v ∧ x_rfv v ∧ wX8_penalty B ad K 20 L (v :: r) σ := xr_aload_n dX8_penalty_19
theorem eX8_penalty_20 : wX8_penalty B ad K 20 L r σ ↔ wX8_penalty B ad K 21 L (.int 3 :: r) σ := xr_iconst dX8_penalty_20 (by decide)
theorem eX8_penalty_21 : wX8_penalty B ad K 21 L r σ ↔ ∃ v, L[1]? = some (.int v) ∧ wX8_penalty B ad K 22 L (.int v :: r) σ := xr_iload_n dX8_penalty_21
theorem eX8_penalty_22 : wX8_penalty B ad K 22 L r σ ↔ wX8_penalty B ad K 23 L (.int 0 :: r) σ := xr_iconst dX8_penalty_22 (by decide)
theorem eX8_penalty_23 : wX8_penalty B ad K 23 L r σ ↔ wX8_penalty B ad K 24 L (.int 0 :: r) σ := xr_iconst dX8_penalty_23 (by decide)
theorem eX8_penalty_24 : wX8_penalty B ad K 24 L r σ ↔ wX8_penalty B ad K 25 L (.int 0 :: r) σ := xr_iconst dX8_penalty_24 (by decide)
theorem eX8_penalty_25 {v0 v1 v2 v3 v4 v5 : Value} : wX8_penalty B ad K 25 L (v5 :: v4 :: v3 :: v2 :: v1 :: v0 :: r) σ ↔ ((r.map fun v => v.category).sum ≤ 8 ∧ x_cl (x_v 8 (eX8_add B ad)) [v0, v1, v2, v3, v4, v5] σ (fun v g => wX8_penalty B ad K 28 L (v.toList ++ r) g)) := xr_callV [v0, v1, v2, v3, v4, v5] r dX8_penalty_25 rfl
theorem eX8_penalty_28 : wX8_penalty B ad K 28 L r σ ↔ wX8_penalty B ad K 33 L r σ := xr_goto dX8_penalty_28 (by decide)
theorem eX8_penalty_31 : wX8_penalty B ad K 31 L r σ ↔ wX8_penalty B ad K 33 L (.int (-2) :: r) σ := xr_bipush dX8_penalty_31 (by decide)
theorem eX8_penalty_33 {x : Int32} : wX8_penalty B ad K 33 L [.int x] σ ↔ K (some (.int x)) σ := xr_ireturn dX8_penalty_33
end
abbrev wX8_insert (B : Nat) (ad : Nat → Nat) (K : xK) : Nat → List Value → List Value → xW → Prop := x_WP B (some .int) (cxX8_insert B ad) cX8_insert K
section
variable {B : Nat} {ad : Nat → Nat} {K : xK} {L r : List Value} {σ : xW}
theorem eX8_insert_0 : wX8_insert B ad K 0 L r σ ↔ ∃ v, L[0]? = some v ∧ x_rfv v ∧ wX8_insert B ad K 1 L (v :: r) σ := xr_aload_n dX8_insert_0
theorem eX8_insert_1 : wX8_insert B ad K 1 L r σ ↔ wX8_insert B ad K 2 L (.int 0 :: r) σ := xr_iconst dX8_insert_1 (by decide)
theorem eX8_insert_2 {x : Int32} {a : Nat} : wX8_insert B ad K 2 L (.int x :: .ref a :: r) σ ↔ ∃ fs, σ.1 a = some (8, fs) ∧ 0 < fs.length ∧ B ≤ a ∧ wX8_insert B ad K 5 L r (x_up σ.1 a (8, fs.set 0 (.int x)), σ.2) := xr_put_i (t := 8) (j := 0) dX8_insert_2 rfl (by decide)
theorem eX8_insert_5 : wX8_insert B ad K 5 L r σ ↔ ∃ v, L[1]? = some (.int v) ∧ wX8_insert B ad K 6 L (.int v :: r) σ := xr_iload_n dX8_insert_5
theorem eX8_insert_6 {x : Int32} : wX8_insert B ad K 6 L (.int x :: r) σ ↔ (if x.toInt < 0 then wX8_insert B ad K 17 L r σ else wX8_insert B ad K 9 L r σ) := (xr_if_lt dX8_insert_6 (by decide)).trans x_ite
theorem eX8_insert_9 : wX8_insert B ad K 9 L r σ ↔ ∃ v, L[1]? = some (.int v) ∧ wX8_insert B ad K 10 L (.int v :: r) σ := xr_iload_n dX8_insert_9
theorem eX8_insert_10 : wX8_insert B ad K 10 L r σ ↔ ∃ v, L[0]? = some v ∧ x_rfv v ∧ wX8_insert B ad K 11 L (v :: r) σ := xr_aload_n dX8_insert_10
theorem eX8_insert_11 {a : Nat} : wX8_insert B ad K 11 L (.ref a :: r) σ ↔ ∃ fs v, σ.1 a = some (8, fs) ∧ fs[7]? = some v ∧ wX8_insert B ad K 14 L (v :: r) σ := xr_getfield (t := 8) (j := 7) dX8_insert_11 rfl
theorem eX8_insert_14 {x y : Int32} : wX8_insert B ad K 14 L (.int y :: .int x :: r) σ ↔ (if x.toInt < y.toInt then wX8_insert B ad K 19 L r σ else wX8_insert B ad K 17 L r σ) := (xr_icmp_lt dX8_insert_14 (by decide)).trans x_ite
theorem eX8_insert_17 : wX8_insert B ad K 17 L r σ ↔ wX8_insert B ad K 18 L (.int (-1) :: r) σ := xr_iconst dX8_insert_17 (by decide)
theorem eX8_insert_18 {x : Int32} : wX8_insert B ad K 18 L [.int x] σ ↔ K (some (.int x)) σ := xr_ireturn dX8_insert_18
theorem eX8_insert_19 : wX8_insert B ad K 19 L r σ ↔ ∃ v, L[2]? = some (.int v) ∧ wX8_insert B ad K 20 L (.int v :: r) σ := xr_iload_n dX8_insert_19
theorem eX8_insert_20 {x : Int32} : wX8_insert B ad K 20 L (.int x :: r) σ ↔ wX8_insert B ad K 21 L (.long x.toInt64 :: r) σ := xr_i2l dX8_insert_20
theorem eX8_insert_21 : wX8_insert B ad K 21 L r σ ↔ wX8_insert B ad K 22 L (.long 1 :: r) σ := xr_lconst dX8_insert_21 (by decide)
theorem eX8_insert_22 : wX8_insert B ad K 22 L r σ ↔ wX8_insert B ad K 25 L (.long 1000000 :: r) σ := xr_ldc2 dX8_insert_22 rfl
theorem eX8_insert_25 {v0 v1 v2 : Value} : wX8_insert B ad K 25 L (v2 :: v1 :: v0 :: r) σ ↔ ((r.map fun v => v.category).sum ≤ 8 ∧ x_cl (eX8_in B ad) [v0, v1, v2] σ (fun v g => wX8_insert B ad K 28 L (v.toList ++ r) g)) := xr_callS [v0, v1, v2] r dX8_insert_25 rfl
theorem eX8_insert_28 {x : Int32} : wX8_insert B ad K 28 L (.int x :: r) σ ↔ (if x = 0 then wX8_insert B ad K 51 L r σ else wX8_insert B ad K 31 L r σ) := (xr_if_eq dX8_insert_28 (by decide)).trans x_ite
theorem eX8_insert_31 : wX8_insert B ad K 31 L r σ ↔ ∃ v, L[0]? = some v ∧ x_rfv v ∧ wX8_insert B ad K 32 L (v :: r) σ := xr_aload_n dX8_insert_31
theorem eX8_insert_32 : wX8_insert B ad K 32 L r σ ↔ wX8_insert B ad K 33 L (.int 4 :: r) σ := xr_iconst dX8_insert_32 (by decide)
theorem eX8_insert_33 : wX8_insert B ad K 33 L r σ ↔ ∃ v, L[1]? = some (.int v) ∧ wX8_insert B ad K 34 L (.int v :: r) σ := xr_iload_n dX8_insert_33
theorem eX8_insert_34 : wX8_insert B ad K 34 L r σ ↔ ∃ v, L[2]? = some (.int v) ∧ wX8_insert B ad K 35 L (.int v :: r) σ := xr_iload_n dX8_insert_34
theorem eX8_insert_35 : wX8_insert B ad K 35 L r σ ↔ ∃ v, L[3]? = some (.int v) ∧ wX8_insert B ad K 36 L (.int v :: r) σ := xr_iload_n dX8_insert_35
theorem eX8_insert_36 {x : Int32} : wX8_insert B ad K 36 L (.int x :: r) σ ↔ (if x = 0 then wX8_insert B ad K 43 L r σ else wX8_insert B ad K 39 L r σ) := (xr_if_eq dX8_insert_36 (by decide)).trans x_ite
theorem eX8_insert_39 : wX8_insert B ad K 39 L r σ ↔ wX8_insert B ad K 40 L (.int 1 :: r) σ := xr_iconst dX8_insert_39 (by decide)
theorem eX8_insert_40 : wX8_insert B ad K 40 L r σ ↔ wX8_insert B ad K 44 L r σ := xr_goto dX8_insert_40 (by decide)
theorem eX8_insert_43 : wX8_insert B ad K 43 L r σ ↔ wX8_insert B ad K 44 L (.int 0 :: r) σ := xr_iconst dX8_insert_43 (by decide)
theorem eX8_insert_44 : wX8_insert B ad K 44 L r σ ↔ wX8_insert B ad K 45 L (.int 0 :: r) σ := xr_iconst dX8_insert_44 (by decide)
theorem eX8_insert_45 {v0 v1 v2 v3 v4 v5 : Value} : wX8_insert B ad K 45 L (v5 :: v4 :: v3 :: v2 :: v1 :: v0 :: r) σ ↔ ((r.map fun v => v.category).sum ≤ 8 ∧ x_cl (x_v 8 (eX8_add B ad)) [v0, v1, v2, v3, v4, v5] σ (fun v g => wX8_insert B ad K 48 L (v.toList ++ r) g)) := xr_callV [v0, v1, v2, v3, v4, v5] r dX8_insert_45 rfl
theorem eX8_insert_48 : wX8_insert B ad K 48 L r σ ↔ wX8_insert B ad K 53 L r σ := xr_goto dX8_insert_48 (by decide)
theorem eX8_insert_51 : wX8_insert B ad K 51 L r σ ↔ wX8_insert B ad K 53 L (.int (-2) :: r) σ := xr_bipush dX8_insert_51 (by decide)
theorem eX8_insert_53 {x : Int32} : wX8_insert B ad K 53 L [.int x] σ ↔ K (some (.int x)) σ := xr_ireturn dX8_insert_53
end
abbrev wX8_mark (B : Nat) (ad : Nat → Nat) (K : xK) : Nat → List Value → List Value → xW → Prop := x_WP B (some .int) (cxX8_mark B ad) cX8_mark K
section
variable {B : Nat} {ad : Nat → Nat} {K : xK} {L r : List Value} {σ : xW}
theorem eX8_mark_0 : wX8_mark B ad K 0 L r σ ↔ ∃ v, L[0]? = some v ∧ x_rfv v ∧ wX8_mark B ad K 1 L (v :: r) σ := xr_aload_n dX8_mark_0
theorem eX8_mark_1 : wX8_mark B ad K 1 L r σ ↔ wX8_mark B ad K 2 L (.int 0 :: r) σ := xr_iconst dX8_mark_1 (by decide)
theorem eX8_mark_2 {x : Int32} {a : Nat} : wX8_mark B ad K 2 L (.int x :: .ref a :: r) σ ↔ ∃ fs, σ.1 a = some (8, fs) ∧ 0 < fs.length ∧ B ≤ a ∧ wX8_mark B ad K 5 L r (x_up σ.1 a (8, fs.set 0 (.int x)), σ.2) := xr_put_i (t := 8) (j := 0) dX8_mark_2 rfl (by decide)
theorem eX8_mark_5 : wX8_mark B ad K 5 L r σ ↔ ∃ v, L[0]? = some v ∧ x_rfv v ∧ wX8_mark B ad K 6 L (v :: r) σ := xr_aload_n dX8_mark_5
theorem eX8_mark_6 : wX8_mark B ad K 6 L r σ ↔ wX8_mark B ad K 7 L (.int 5 :: r) σ := xr_iconst dX8_mark_6 (by decide)
theorem eX8_mark_7 : wX8_mark B ad K 7 L r σ ↔ ∃ v, L[1]? = some (.int v) ∧ wX8_mark B ad K 8 L (.int v :: r) σ := xr_iload_n dX8_mark_7
theorem eX8_mark_8 : wX8_mark B ad K 8 L r σ ↔ wX8_mark B ad K 9 L (.int 0 :: r) σ := xr_iconst dX8_mark_8 (by decide)
theorem eX8_mark_9 : wX8_mark B ad K 9 L r σ ↔ wX8_mark B ad K 10 L (.int 0 :: r) σ := xr_iconst dX8_mark_9 (by decide)
theorem eX8_mark_10 : wX8_mark B ad K 10 L r σ ↔ wX8_mark B ad K 11 L (.int 0 :: r) σ := xr_iconst dX8_mark_10 (by decide)
theorem eX8_mark_11 {v0 v1 v2 v3 v4 v5 : Value} : wX8_mark B ad K 11 L (v5 :: v4 :: v3 :: v2 :: v1 :: v0 :: r) σ ↔ ((r.map fun v => v.category).sum ≤ 8 ∧ x_cl (x_v 8 (eX8_add B ad)) [v0, v1, v2, v3, v4, v5] σ (fun v g => wX8_mark B ad K 14 L (v.toList ++ r) g)) := xr_callV [v0, v1, v2, v3, v4, v5] r dX8_mark_11 rfl
theorem eX8_mark_14 {x : Int32} : wX8_mark B ad K 14 L [.int x] σ ↔ K (some (.int x)) σ := xr_ireturn dX8_mark_14
end
abbrev wX8_bad (B : Nat) (ad : Nat → Nat) (K : xK) : Nat → List Value → List Value → xW → Prop := x_WP B (some .long) (cxX8_bad B ad) cX8_bad K
section
variable {B : Nat} {ad : Nat → Nat} {K : xK} {L r : List Value} {σ : xW}
theorem eX8_bad_0 : wX8_bad B ad K 0 L r σ ↔ ∃ v, L[0]? = some (.long v) ∧ wX8_bad B ad K 1 L (.long v :: r) σ := xr_lload_n dX8_bad_0
theorem eX8_bad_1 : wX8_bad B ad K 1 L r σ ↔ wX8_bad B ad K 2 L (.long 0 :: r) σ := xr_lconst dX8_bad_1 (by decide)
theorem eX8_bad_2 {x y : Int64} : wX8_bad B ad K 2 L (.long y :: .long x :: r) σ ↔ wX8_bad B ad K 3 L (.int (lg_cmp x y) :: r) σ := xr_lcmp dX8_bad_2
theorem eX8_bad_3 {x : Int32} : wX8_bad B ad K 3 L (.int x :: r) σ ↔ (if x = 0 then wX8_bad B ad K 6 L r σ else wX8_bad B ad K 8 L r σ) := (xr_if_ne dX8_bad_3 (by decide)).trans x_ite
theorem eX8_bad_6 : wX8_bad B ad K 6 L r σ ↔ wX8_bad B ad K 7 L (.long 0 :: r) σ := xr_lconst dX8_bad_6 (by decide)
theorem eX8_bad_7 {x : Int64} : wX8_bad B ad K 7 L [.long x] σ ↔ K (some (.long x)) σ := xr_lreturn dX8_bad_7
theorem eX8_bad_8 : wX8_bad B ad K 8 L r σ ↔ ∃ v, L[2]? = some (.long v) ∧ wX8_bad B ad K 9 L (.long v :: r) σ := xr_lload_n dX8_bad_8
theorem eX8_bad_9 : wX8_bad B ad K 9 L r σ ↔ wX8_bad B ad K 10 L (.long 0 :: r) σ := xr_lconst dX8_bad_9 (by decide)
theorem eX8_bad_10 {x y : Int64} : wX8_bad B ad K 10 L (.long y :: .long x :: r) σ ↔ wX8_bad B ad K 11 L (.int (lg_cmp x y) :: r) σ := xr_lcmp dX8_bad_10
theorem eX8_bad_11 {x : Int32} : wX8_bad B ad K 11 L (.int x :: r) σ ↔ (if x = 0 then wX8_bad B ad K 14 L r σ else wX8_bad B ad K 18 L r σ) := (xr_if_ne dX8_bad_11 (by decide)).trans x_ite
theorem eX8_bad_14 : wX8_bad B ad K 14 L r σ ↔ wX8_bad B ad K 17 L (.long 10000 :: r) σ := xr_ldc2 dX8_bad_14 rfl
theorem eX8_bad_17 {x : Int64} : wX8_bad B ad K 17 L [.long x] σ ↔ K (some (.long x)) σ := xr_lreturn dX8_bad_17
theorem eX8_bad_18 : wX8_bad B ad K 18 L r σ ↔ ∃ v, L[0]? = some (.long v) ∧ wX8_bad B ad K 19 L (.long v :: r) σ := xr_lload_n dX8_bad_18
theorem eX8_bad_19 : wX8_bad B ad K 19 L r σ ↔ wX8_bad B ad K 22 L (.long 7230584 :: r) σ := xr_ldc2 dX8_bad_19 rfl
theorem eX8_bad_22 {x y : Int64} : wX8_bad B ad K 22 L (.long y :: .long x :: r) σ ↔ wX8_bad B ad K 23 L (.int (lg_cmp x y) :: r) σ := xr_lcmp dX8_bad_22
theorem eX8_bad_23 {x : Int32} : wX8_bad B ad K 23 L (.int x :: r) σ ↔ (if 0 < x.toInt then wX8_bad B ad K 36 L r σ else wX8_bad B ad K 26 L r σ) := (xr_if_gt dX8_bad_23 (by decide)).trans x_ite
theorem eX8_bad_26 : wX8_bad B ad K 26 L r σ ↔ wX8_bad B ad K 29 L (.long 297 :: r) σ := xr_ldc2 dX8_bad_26 rfl
theorem eX8_bad_29 : wX8_bad B ad K 29 L r σ ↔ ∃ v, L[0]? = some (.long v) ∧ wX8_bad B ad K 30 L (.long v :: r) σ := xr_lload_n dX8_bad_29
theorem eX8_bad_30 {x y : Int64} : wX8_bad B ad K 30 L (.long y :: .long x :: r) σ ↔ wX8_bad B ad K 31 L (.long (x * y) :: r) σ := xr_lmul dX8_bad_30
theorem eX8_bad_31 : wX8_bad B ad K 31 L r σ ↔ ∃ v, L[2]? = some (.long v) ∧ wX8_bad B ad K 32 L (.long v :: r) σ := xr_lload_n dX8_bad_31
theorem eX8_bad_32 {x y : Int64} : wX8_bad B ad K 32 L (.long y :: .long x :: r) σ ↔ (¬ y = 0 ∧ wX8_bad B ad K 33 L (.long (x / y) :: r) σ) := xr_ldiv dX8_bad_32
theorem eX8_bad_33 : wX8_bad B ad K 33 L r σ ↔ wX8_bad B ad K 55 L r σ := xr_goto dX8_bad_33 (by decide)
theorem eX8_bad_36 : wX8_bad B ad K 36 L r σ ↔ ∃ v, L[2]? = some (.long v) ∧ wX8_bad B ad K 37 L (.long v :: r) σ := xr_lload_n dX8_bad_36
theorem eX8_bad_37 : wX8_bad B ad K 37 L r σ ↔ wX8_bad B ad K 40 L (.long 1663497 :: r) σ := xr_ldc2 dX8_bad_37 rfl
theorem eX8_bad_40 {x y : Int64} : wX8_bad B ad K 40 L (.long y :: .long x :: r) σ ↔ wX8_bad B ad K 41 L (.int (lg_cmp x y) :: r) σ := xr_lcmp dX8_bad_40
theorem eX8_bad_41 {x : Int32} : wX8_bad B ad K 41 L (.int x :: r) σ ↔ (if x.toInt < 0 then wX8_bad B ad K 54 L r σ else wX8_bad B ad K 44 L r σ) := (xr_if_lt dX8_bad_41 (by decide)).trans x_ite
theorem eX8_bad_44 : wX8_bad B ad K 44 L r σ ↔ ∃ v, L[0]? = some (.long v) ∧ wX8_bad B ad K 45 L (.long v :: r) σ := xr_lload_n dX8_bad_44
theorem eX8_bad_45 : wX8_bad B ad K 45 L r σ ↔ ∃ v, L[2]? = some (.long v) ∧ wX8_bad B ad K 46 L (.long v :: r) σ := xr_lload_n dX8_bad_45
theorem eX8_bad_46 : wX8_bad B ad K 46 L r σ ↔ wX8_bad B ad K 49 L (.long 297 :: r) σ := xr_ldc2 dX8_bad_46 rfl
theorem eX8_bad_49 {x y : Int64} : wX8_bad B ad K 49 L (.long y :: .long x :: r) σ ↔ (¬ y = 0 ∧ wX8_bad B ad K 50 L (.long (x / y) :: r) σ) := xr_ldiv dX8_bad_49
theorem eX8_bad_50 {x y : Int64} : wX8_bad B ad K 50 L (.long y :: .long x :: r) σ ↔ (¬ y = 0 ∧ wX8_bad B ad K 51 L (.long (x / y) :: r) σ) := xr_ldiv dX8_bad_50
theorem eX8_bad_51 : wX8_bad B ad K 51 L r σ ↔ wX8_bad B ad K 55 L r σ := xr_goto dX8_bad_51 (by decide)
theorem eX8_bad_54 : wX8_bad B ad K 54 L r σ ↔ ∃ v, L[0]? = some (.long v) ∧ wX8_bad B ad K 55 L (.long v :: r) σ := xr_lload_n dX8_bad_54
theorem eX8_bad_55 {v : Int64} : wX8_bad B ad K 55 L (.long v :: r) σ ↔ (4 + 1 < L.length ∧ x_nl L 4 ∧ wX8_bad B ad K 57 ((L.set 4 (.long v)).set (4 + 1) (.retAddr 0)) r σ) := xr_lstore dX8_bad_55
theorem eX8_bad_57 : wX8_bad B ad K 57 L r σ ↔ ∃ v, L[4]? = some (.long v) ∧ wX8_bad B ad K 59 L (.long v :: r) σ := xr_lload dX8_bad_57
theorem eX8_bad_59 : wX8_bad B ad K 59 L r σ ↔ wX8_bad B ad K 62 L (.long 1290 :: r) σ := xr_ldc2 dX8_bad_59 rfl
theorem eX8_bad_62 {x y : Int64} : wX8_bad B ad K 62 L (.long y :: .long x :: r) σ ↔ wX8_bad B ad K 63 L (.int (lg_cmp x y) :: r) σ := xr_lcmp dX8_bad_62
theorem eX8_bad_63 {x : Int32} : wX8_bad B ad K 63 L (.int x :: r) σ ↔ (if 0 < x.toInt then wX8_bad B ad K 66 L r σ else wX8_bad B ad K 72 L r σ) := (xr_if_le dX8_bad_63 (by decide)).trans x_ite
theorem eX8_bad_66 : wX8_bad B ad K 66 L r σ ↔ wX8_bad B ad K 69 L (.long 10000 :: r) σ := xr_ldc2 dX8_bad_66 rfl
theorem eX8_bad_69 : wX8_bad B ad K 69 L r σ ↔ wX8_bad B ad K 88 L r σ := xr_goto dX8_bad_69 (by decide)
theorem eX8_bad_72 : wX8_bad B ad K 72 L r σ ↔ ∃ v, L[4]? = some (.long v) ∧ wX8_bad B ad K 74 L (.long v :: r) σ := xr_lload dX8_bad_72
theorem eX8_bad_74 : wX8_bad B ad K 74 L r σ ↔ ∃ v, L[4]? = some (.long v) ∧ wX8_bad B ad K 76 L (.long v :: r) σ := xr_lload dX8_bad_74
theorem eX8_bad_76 {x y : Int64} : wX8_bad B ad K 76 L (.long y :: .long x :: r) σ ↔ wX8_bad B ad K 77 L (.long (x * y) :: r) σ := xr_lmul dX8_bad_76
theorem eX8_bad_77 : wX8_bad B ad K 77 L r σ ↔ ∃ v, L[4]? = some (.long v) ∧ wX8_bad B ad K 79 L (.long v :: r) σ := xr_lload dX8_bad_77
theorem eX8_bad_79 {x y : Int64} : wX8_bad B ad K 79 L (.long y :: .long x :: r) σ ↔ wX8_bad B ad K 80 L (.long (x * y) :: r) σ := xr_lmul dX8_bad_79
theorem eX8_bad_80 : wX8_bad B ad K 80 L r σ ↔ wX8_bad B ad K 83 L (.long 131072 :: r) σ := xr_ldc2 dX8_bad_80 rfl
theorem eX8_bad_83 {x y : Int64} : wX8_bad B ad K 83 L (.long y :: .long x :: r) σ ↔ wX8_bad B ad K 84 L (.long (x + y) :: r) σ := xr_ladd dX8_bad_83
theorem eX8_bad_84 : wX8_bad B ad K 84 L r σ ↔ wX8_bad B ad K 87 L (.long 262144 :: r) σ := xr_ldc2 dX8_bad_84 rfl
theorem eX8_bad_87 {x y : Int64} : wX8_bad B ad K 87 L (.long y :: .long x :: r) σ ↔ (¬ y = 0 ∧ wX8_bad B ad K 88 L (.long (x / y) :: r) σ) := xr_ldiv dX8_bad_87
theorem eX8_bad_88 {x : Int64} : wX8_bad B ad K 88 L [.long x] σ ↔ K (some (.long x)) σ := xr_lreturn dX8_bad_88
end
