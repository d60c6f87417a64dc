/-! THE LAW: its pool, its calls, by program out of the words of the tables -/
def nwLw : List (Nat × Nat × List Value) := [(8, 7, [.null, .int 0, .null, .int 0, .null, .int 0, .null, .null, .int 0, .int 0, .int 0]), (16, 8, [.int 0, .int 0, .null, .null, .null, .null, .null, .int 0, .null, .null, .null, .null, .int 0, .int 0, .int 0, .int 0, .null, .null, .int 0, .null, .null, .null, .null, .int 0, .null, .int 0, .int 0, .long 0, .null, .null, .int 0, .int 0, .long 0, .int 0, .int 0, .null, .null, .null, .null, .null, .null, .null, .int 0, .null, .null])]
set_option maxRecDepth 20000 in
theorem nwLw_ok : nwLw.all (x_nchk RL) = true := by decide +kernel
def caL_law (B : Nat) (ad : Nat → Nat) : List (Nat × Nat × Nat × xR) := [(15, 2, 1, x_n1 (eX7_init B ad)), (18, 2, 1, x_n1 (eX8_init B ad)), (19, 0, 4, x_v 7 (eX7_set B ad)), (23, 0, 4, x_v 8 (eX8_set B ad)), (24, 0, 5, x_v 7 (eX7_cls B ad)), (28, 0, 5, x_v 8 (eX8_cls B ad)), (29, 0, 3, x_v 7 (eX7_box B ad)), (32, 0, 3, x_v 8 (eX8_box B ad)), (33, 0, 5, x_v 7 (eX7_glue B ad)), (36, 0, 5, x_v 8 (eX8_glue B ad)), (37, 0, 2, x_v 7 (eX7_kern B ad)), (41, 0, 2, x_v 8 (eX8_kern B ad)), (42, 0, 2, x_v 7 (eX7_penalty B ad)), (45, 0, 2, x_v 8 (eX8_penalty B ad)), (46, 0, 4, x_v 7 (eX7_insert B ad)), (50, 0, 4, x_v 8 (eX8_insert B ad)), (51, 0, 2, x_v 7 (eX7_mark B ad)), (54, 0, 2, x_v 8 (eX8_mark B ad)), (55, 0, 1, x_v 7 (eX7_run B ad)), (59, 0, 1, x_v 8 (eX8_run B ad)), (60, 0, 3, x_v 7 (eX7_at B ad)), (63, 0, 3, x_v 8 (eX8_at B ad)), (64, 0, 3, x_v 7 (eX7_part B ad)), (67, 0, 3, x_v 8 (eX8_part B ad)), (68, 0, 3, x_v 7 (eX7_told B ad)), (72, 0, 3, x_v 8 (eX8_told B ad)), (73, 1, 4, emk B ad), (78, 0, 3, x_v 8 (eX8_marked B ad)), (79, 0, 1, x_v 8 (eX8_thrown B ad)), (82, 0, 2, x_v 7 (eX7_now B ad)), (86, 0, 2, x_v 8 (eX8_now B ad)), (87, 0, 3, x_v 7 (eX7_badness B ad)), (90, 0, 3, x_v 8 (eX8_badness B ad)), (91, 0, 2, x_v 7 (eX7_count B ad)), (94, 0, 2, x_v 8 (eX8_count B ad)), (95, 0, 1, x_v 7 (eX7_check B ad)), (98, 0, 1, x_v 8 (eX8_check B ad))]
def cxL_law (B : Nat) (ad : Nat → Nat) : xC := (fun k => flL.lookup k, fun k => csL.lookup k, fun k => nwLw.lookup k, fun k => anL.lookup k, fun k => (saL.lookup k).map fun i => .ref (ad i), fun k => (caL_law B ad).lookup k)
abbrev wL_law (B : Nat) (ad : Nat → Nat) (K : xK) : Nat → List Value → List Value → xW → Prop := x_WP B (some .boolean) (cxL_law B ad) cL_law K
section
variable {B : Nat} {ad : Nat → Nat} {K : xK} {L r : List Value} {σ : xW}
theorem eL_law_0 : wL_law B ad K 0 L r σ ↔ wL_law B ad K 3 L (.ref σ.2.1 :: r) (x_up σ.1 σ.2.1 (7, [.null, .int 0, .null, .int 0, .null, .int 0, .null, .null, .int 0, .int 0, .int 0]), σ.2.1 + 1, σ.2.2 + 11) := xr_new (t := 7) dL_law_0 rfl
theorem eL_law_3 {v : Value} : wL_law B ad K 3 L (v :: r) σ ↔ (v.category = 1 ∧ wL_law B ad K 4 L (v :: v :: r) σ) := xr_dup dL_law_3
theorem eL_law_4 {v0 : Value} : wL_law B ad K 4 L (v0 :: r) σ ↔ ((r.map fun v => v.category).sum ≤ 8 ∧ x_cl (x_n1 (eX7_init B ad)) [v0] σ (fun v g => wL_law B ad K 7 L (v.toList ++ r) g)) := xr_callI [v0] r dL_law_4 rfl
theorem eL_law_7 {v : Value} : wL_law B ad K 7 L (v :: r) σ ↔ (x_rfv v ∧ 1 < L.length ∧ x_nl L 1 ∧ wL_law B ad K 8 (L.set 1 v) r σ) := xr_astore_n dL_law_7
theorem eL_law_8 : wL_law B ad K 8 L r σ ↔ wL_law B ad K 11 L (.ref σ.2.1 :: r) (x_up σ.1 σ.2.1 (8, [.int 0, .int 0, .null, .null, .null, .null, .null, .int 0, .null, .null, .null, .null, .int 0, .int 0, .int 0, .int 0, .null, .null, .int 0, .null, .null, .null, .null, .int 0, .null, .int 0, .int 0, .long 0, .null, .null, .int 0, .int 0, .long 0, .int 0, .int 0, .null, .null, .null, .null, .null, .null, .null, .int 0, .null, .null]), σ.2.1 + 1, σ.2.2 + 45) := xr_new (t := 8) dL_law_8 rfl
theorem eL_law_11 {v : Value} : wL_law B ad K 11 L (v :: r) σ ↔ (v.category = 1 ∧ wL_law B ad K 12 L (v :: v :: r) σ) := xr_dup dL_law_11
theorem eL_law_12 {v0 : Value} : wL_law B ad K 12 L (v0 :: r) σ ↔ ((r.map fun v => v.category).sum ≤ 8 ∧ x_cl (x_n1 (eX8_init B ad)) [v0] σ (fun v g => wL_law B ad K 15 L (v.toList ++ r) g)) := xr_callI [v0] r dL_law_12 rfl
theorem eL_law_15 {v : Value} : wL_law B ad K 15 L (v :: r) σ ↔ (x_rfv v ∧ 2 < L.length ∧ x_nl L 2 ∧ wL_law B ad K 16 (L.set 2 v) r σ) := xr_astore_n dL_law_15
theorem eL_law_16 : wL_law B ad K 16 L r σ ↔ wL_law B ad K 17 L (.int 1 :: r) σ := xr_iconst dL_law_16 (by decide)
theorem eL_law_17 {x : Int32} : wL_law B ad K 17 L (.int x :: r) σ ↔ (¬ x.toInt < 0 ∧ x.toInt ≤ 60000000 ∧ wL_law B ad K 19 L (.ref σ.2.1 :: r) (x_up σ.1 σ.2.1 (101, List.replicate x.toInt.toNat (.long 0)), σ.2.1 + 1, σ.2.2 + x.toInt.toNat)) := xr_newarray (t := 101) dL_law_17 rfl
theorem eL_law_19 {v : Value} : wL_law B ad K 19 L (v :: r) σ ↔ (x_rfv v ∧ 3 < L.length ∧ x_nl L 3 ∧ wL_law B ad K 20 (L.set 3 v) r σ) := xr_astore_n dL_law_19
theorem eL_law_20 : wL_law B ad K 20 L r σ ↔ wL_law B ad K 21 L (.int 0 :: r) σ := xr_iconst dL_law_20 (by decide)
theorem eL_law_21 {v : Int32} : wL_law B ad K 21 L (.int v :: r) σ ↔ (4 < L.length ∧ x_nl L 4 ∧ wL_law B ad K 23 (L.set 4 (.int v)) r σ) := xr_istore dL_law_21
theorem eL_law_23 : wL_law B ad K 23 L r σ ↔ ∃ v, L[4]? = some (.int v) ∧ wL_law B ad K 25 L (.int v :: r) σ := xr_iload dL_law_23
theorem eL_law_25 : wL_law B ad K 25 L r σ ↔ ∃ v, L[0]? = some v ∧ x_rfv v ∧ wL_law B ad K 26 L (v :: r) σ := xr_aload_n dL_law_25
theorem eL_law_26 {a : Nat} : wL_law B ad K 26 L (.ref a :: r) σ ↔ ∃ t V, σ.1 a = some (t, V) ∧ 100 ≤ t ∧ t ≤ 106 ∧ wL_law B ad K 27 L (.int (Int32.ofNat V.length) :: r) σ := xr_alen dL_law_26
theorem eL_law_27 : wL_law B ad K 27 L r σ ↔ wL_law B ad K 28 L (.int 5 :: r) σ := xr_iconst dL_law_27 (by decide)
theorem eL_law_28 {x y : Int32} : wL_law B ad K 28 L (.int y :: .int x :: r) σ ↔ wL_law B ad K 29 L (.int (x - y) :: r) σ := xr_isub dL_law_28
theorem eL_law_29 {x y : Int32} : wL_law B ad K 29 L (.int y :: .int x :: r) σ ↔ (if y.toInt < x.toInt then wL_law B ad K 768 L r σ else wL_law B ad K 32 L r σ) := (xr_icmp_gt dL_law_29 (by decide)).trans x_ite
theorem eL_law_32 : wL_law B ad K 32 L r σ ↔ ∃ v, L[0]? = some v ∧ x_rfv v ∧ wL_law B ad K 33 L (v :: r) σ := xr_aload_n dL_law_32
theorem eL_law_33 : wL_law B ad K 33 L r σ ↔ ∃ v, L[4]? = some (.int v) ∧ wL_law B ad K 35 L (.int v :: r) σ := xr_iload dL_law_33
theorem eL_law_35 {a : Nat} {x : Int32} : wL_law B ad K 35 L (.int x :: .ref a :: r) σ ↔ ∃ t V v, σ.1 a = some (t, V) ∧ (t = 100 ∨ t = 106) ∧ x_ix x V = some v ∧ wL_law B ad K 36 L (v :: r) σ := xr_iaload dL_law_35
theorem eL_law_36 : wL_law B ad K 36 L r σ ↔ wL_law B ad K 38 L (.int 31 :: r) σ := xr_bipush dL_law_36 (by decide)
theorem eL_law_38 {x y : Int32} : wL_law B ad K 38 L (.int y :: .int x :: r) σ ↔ wL_law B ad K 39 L (.int (x &&& y) :: r) σ := xr_iand dL_law_38
theorem eL_law_120 : wL_law B ad K 120 L r σ ↔ ∃ v, L[1]? = some v ∧ x_rfv v ∧ wL_law B ad K 121 L (v :: r) σ := xr_aload_n dL_law_120
theorem eL_law_121 : wL_law B ad K 121 L r σ ↔ ∃ v, L[0]? = some v ∧ x_rfv v ∧ wL_law B ad K 122 L (v :: r) σ := xr_aload_n dL_law_121
theorem eL_law_122 : wL_law B ad K 122 L r σ ↔ ∃ v, L[4]? = some (.int v) ∧ wL_law B ad K 124 L (.int v :: r) σ := xr_iload dL_law_122
theorem eL_law_124 : wL_law B ad K 124 L r σ ↔ wL_law B ad K 125 L (.int 1 :: r) σ := xr_iconst dL_law_124 (by decide)
theorem eL_law_125 {x y : Int32} : wL_law B ad K 125 L (.int y :: .int x :: r) σ ↔ wL_law B ad K 126 L (.int (x + y) :: r) σ := xr_iadd dL_law_125
theorem eL_law_126 {a : Nat} {x : Int32} : wL_law B ad K 126 L (.int x :: .ref a :: r) σ ↔ ∃ t V v, σ.1 a = some (t, V) ∧ (t = 100 ∨ t = 106) ∧ x_ix x V = some v ∧ wL_law B ad K 127 L (v :: r) σ := xr_iaload dL_law_126
theorem eL_law_127 : wL_law B ad K 127 L r σ ↔ ∃ v, L[0]? = some v ∧ x_rfv v ∧ wL_law B ad K 128 L (v :: r) σ := xr_aload_n dL_law_127
theorem eL_law_128 : wL_law B ad K 128 L r σ ↔ ∃ v, L[4]? = some (.int v) ∧ wL_law B ad K 130 L (.int v :: r) σ := xr_iload dL_law_128
theorem eL_law_130 : wL_law B ad K 130 L r σ ↔ wL_law B ad K 131 L (.int 2 :: r) σ := xr_iconst dL_law_130 (by decide)
theorem eL_law_131 {x y : Int32} : wL_law B ad K 131 L (.int y :: .int x :: r) σ ↔ wL_law B ad K 132 L (.int (x + y) :: r) σ := xr_iadd dL_law_131
theorem eL_law_132 {a : Nat} {x : Int32} : wL_law B ad K 132 L (.int x :: .ref a :: r) σ ↔ ∃ t V v, σ.1 a = some (t, V) ∧ (t = 100 ∨ t = 106) ∧ x_ix x V = some v ∧ wL_law B ad K 133 L (v :: r) σ := xr_iaload dL_law_132
theorem eL_law_133 : wL_law B ad K 133 L r σ ↔ ∃ v, L[0]? = some v ∧ x_rfv v ∧ wL_law B ad K 134 L (v :: r) σ := xr_aload_n dL_law_133
theorem eL_law_134 : wL_law B ad K 134 L r σ ↔ ∃ v, L[4]? = some (.int v) ∧ wL_law B ad K 136 L (.int v :: r) σ := xr_iload dL_law_134
theorem eL_law_136 : wL_law B ad K 136 L r σ ↔ wL_law B ad K 137 L (.int 3 :: r) σ := xr_iconst dL_law_136 (by decide)
theorem eL_law_137 {x y : Int32} : wL_law B ad K 137 L (.int y :: .int x :: r) σ ↔ wL_law B ad K 138 L (.int (x + y) :: r) σ := xr_iadd dL_law_137
theorem eL_law_138 {a : Nat} {x : Int32} : wL_law B ad K 138 L (.int x :: .ref a :: r) σ ↔ ∃ t V v, σ.1 a = some (t, V) ∧ (t = 100 ∨ t = 106) ∧ x_ix x V = some v ∧ wL_law B ad K 139 L (v :: r) σ := xr_iaload dL_law_138
theorem eL_law_139 {v0 v1 v2 v3 : Value} : wL_law B ad K 139 L (v3 :: v2 :: v1 :: v0 :: r) σ ↔ ((r.map fun v => v.category).sum ≤ 8 ∧ x_cl (x_v 7 (eX7_set B ad)) [v0, v1, v2, v3] σ (fun v g => wL_law B ad K 142 L (v.toList ++ r) g)) := xr_callV [v0, v1, v2, v3] r dL_law_139 rfl
theorem eL_law_142 : wL_law B ad K 142 L r σ ↔ ∃ v, L[2]? = some v ∧ x_rfv v ∧ wL_law B ad K 143 L (v :: r) σ := xr_aload_n dL_law_142
theorem eL_law_143 : wL_law B ad K 143 L r σ ↔ ∃ v, L[0]? = some v ∧ x_rfv v ∧ wL_law B ad K 144 L (v :: r) σ := xr_aload_n dL_law_143
theorem eL_law_144 : wL_law B ad K 144 L r σ ↔ ∃ v, L[4]? = some (.int v) ∧ wL_law B ad K 146 L (.int v :: r) σ := xr_iload dL_law_144
theorem eL_law_146 : wL_law B ad K 146 L r σ ↔ wL_law B ad K 147 L (.int 1 :: r) σ := xr_iconst dL_law_146 (by decide)
theorem eL_law_147 {x y : Int32} : wL_law B ad K 147 L (.int y :: .int x :: r) σ ↔ wL_law B ad K 148 L (.int (x + y) :: r) σ := xr_iadd dL_law_147
theorem eL_law_148 {a : Nat} {x : Int32} : wL_law B ad K 148 L (.int x :: .ref a :: r) σ ↔ ∃ t V v, σ.1 a = some (t, V) ∧ (t = 100 ∨ t = 106) ∧ x_ix x V = some v ∧ wL_law B ad K 149 L (v :: r) σ := xr_iaload dL_law_148
theorem eL_law_149 : wL_law B ad K 149 L r σ ↔ ∃ v, L[0]? = some v ∧ x_rfv v ∧ wL_law B ad K 150 L (v :: r) σ := xr_aload_n dL_law_149
theorem eL_law_150 : wL_law B ad K 150 L r σ ↔ ∃ v, L[4]? = some (.int v) ∧ wL_law B ad K 152 L (.int v :: r) σ := xr_iload dL_law_150
theorem eL_law_152 : wL_law B ad K 152 L r σ ↔ wL_law B ad K 153 L (.int 2 :: r) σ := xr_iconst dL_law_152 (by decide)
theorem eL_law_153 {x y : Int32} : wL_law B ad K 153 L (.int y :: .int x :: r) σ ↔ wL_law B ad K 154 L (.int (x + y) :: r) σ := xr_iadd dL_law_153
theorem eL_law_154 {a : Nat} {x : Int32} : wL_law B ad K 154 L (.int x :: .ref a :: r) σ ↔ ∃ t V v, σ.1 a = some (t, V) ∧ (t = 100 ∨ t = 106) ∧ x_ix x V = some v ∧ wL_law B ad K 155 L (v :: r) σ := xr_iaload dL_law_154
theorem eL_law_155 : wL_law B ad K 155 L r σ ↔ ∃ v, L[0]? = some v ∧ x_rfv v ∧ wL_law B ad K 156 L (v :: r) σ := xr_aload_n dL_law_155
theorem eL_law_156 : wL_law B ad K 156 L r σ ↔ ∃ v, L[4]? = some (.int v) ∧ wL_law B ad K 158 L (.int v :: r) σ := xr_iload dL_law_156
theorem eL_law_158 : wL_law B ad K 158 L r σ ↔ wL_law B ad K 159 L (.int 3 :: r) σ := xr_iconst dL_law_158 (by decide)
theorem eL_law_159 {x y : Int32} : wL_law B ad K 159 L (.int y :: .int x :: r) σ ↔ wL_law B ad K 160 L (.int (x + y) :: r) σ := xr_iadd dL_law_159
theorem eL_law_160 {a : Nat} {x : Int32} : wL_law B ad K 160 L (.int x :: .ref a :: r) σ ↔ ∃ t V v, σ.1 a = some (t, V) ∧ (t = 100 ∨ t = 106) ∧ x_ix x V = some v ∧ wL_law B ad K 161 L (v :: r) σ := xr_iaload dL_law_160
theorem eL_law_161 {v0 v1 v2 v3 : Value} : wL_law B ad K 161 L (v3 :: v2 :: v1 :: v0 :: r) σ ↔ ((r.map fun v => v.category).sum ≤ 8 ∧ x_cl (x_v 8 (eX8_set B ad)) [v0, v1, v2, v3] σ (fun v g => wL_law B ad K 164 L (v.toList ++ r) g)) := xr_callV [v0, v1, v2, v3] r dL_law_161 rfl
theorem eL_law_164 {x y : Int32} : wL_law B ad K 164 L (.int y :: .int x :: r) σ ↔ (if x = y then wL_law B ad K 762 L r σ else wL_law B ad K 167 L r σ) := (xr_icmp_eq dL_law_164 (by decide)).trans x_ite
theorem eL_law_167 : wL_law B ad K 167 L r σ ↔ wL_law B ad K 168 L (.int 0 :: r) σ := xr_iconst dL_law_167 (by decide)
theorem eL_law_168 {x : Int32} : wL_law B ad K 168 L [.int x] σ ↔ ((x = 0 ∨ x = 1) ∧ K (some (.int x)) σ) := xr_zreturn dL_law_168
theorem eL_law_169 : wL_law B ad K 169 L r σ ↔ ∃ v, L[1]? = some v ∧ x_rfv v ∧ wL_law B ad K 170 L (v :: r) σ := xr_aload_n dL_law_169
theorem eL_law_170 : wL_law B ad K 170 L r σ ↔ ∃ v, L[0]? = some v ∧ x_rfv v ∧ wL_law B ad K 171 L (v :: r) σ := xr_aload_n dL_law_170
theorem eL_law_171 : wL_law B ad K 171 L r σ ↔ ∃ v, L[4]? = some (.int v) ∧ wL_law B ad K 173 L (.int v :: r) σ := xr_iload dL_law_171
theorem eL_law_173 : wL_law B ad K 173 L r σ ↔ wL_law B ad K 174 L (.int 1 :: r) σ := xr_iconst dL_law_173 (by decide)
theorem eL_law_174 {x y : Int32} : wL_law B ad K 174 L (.int y :: .int x :: r) σ ↔ wL_law B ad K 175 L (.int (x + y) :: r) σ := xr_iadd dL_law_174
theorem eL_law_175 {a : Nat} {x : Int32} : wL_law B ad K 175 L (.int x :: .ref a :: r) σ ↔ ∃ t V v, σ.1 a = some (t, V) ∧ (t = 100 ∨ t = 106) ∧ x_ix x V = some v ∧ wL_law B ad K 176 L (v :: r) σ := xr_iaload dL_law_175
theorem eL_law_176 : wL_law B ad K 176 L r σ ↔ ∃ v, L[0]? = some v ∧ x_rfv v ∧ wL_law B ad K 177 L (v :: r) σ := xr_aload_n dL_law_176
theorem eL_law_177 : wL_law B ad K 177 L r σ ↔ ∃ v, L[4]? = some (.int v) ∧ wL_law B ad K 179 L (.int v :: r) σ := xr_iload dL_law_177
theorem eL_law_179 : wL_law B ad K 179 L r σ ↔ wL_law B ad K 180 L (.int 2 :: r) σ := xr_iconst dL_law_179 (by decide)
theorem eL_law_180 {x y : Int32} : wL_law B ad K 180 L (.int y :: .int x :: r) σ ↔ wL_law B ad K 181 L (.int (x + y) :: r) σ := xr_iadd dL_law_180
theorem eL_law_181 {a : Nat} {x : Int32} : wL_law B ad K 181 L (.int x :: .ref a :: r) σ ↔ ∃ t V v, σ.1 a = some (t, V) ∧ (t = 100 ∨ t = 106) ∧ x_ix x V = some v ∧ wL_law B ad K 182 L (v :: r) σ := xr_iaload dL_law_181
theorem eL_law_182 : wL_law B ad K 182 L r σ ↔ ∃ v, L[0]? = some v ∧ x_rfv v ∧ wL_law B ad K 183 L (v :: r) σ := xr_aload_n dL_law_182
theorem eL_law_183 : wL_law B ad K 183 L r σ ↔ ∃ v, L[4]? = some (.int v) ∧ wL_law B ad K 185 L (.int v :: r) σ := xr_iload dL_law_183
theorem eL_law_185 : wL_law B ad K 185 L r σ ↔ wL_law B ad K 186 L (.int 3 :: r) σ := xr_iconst dL_law_185 (by decide)
theorem eL_law_186 {x y : Int32} : wL_law B ad K 186 L (.int y :: .int x :: r) σ ↔ wL_law B ad K 187 L (.int (x + y) :: r) σ := xr_iadd dL_law_186
theorem eL_law_187 {a : Nat} {x : Int32} : wL_law B ad K 187 L (.int x :: .ref a :: r) σ ↔ ∃ t V v, σ.1 a = some (t, V) ∧ (t = 100 ∨ t = 106) ∧ x_ix x V = some v ∧ wL_law B ad K 188 L (v :: r) σ := xr_iaload dL_law_187
theorem eL_law_188 : wL_law B ad K 188 L r σ ↔ ∃ v, L[0]? = some v ∧ x_rfv v ∧ wL_law B ad K 189 L (v :: r) σ := xr_aload_n dL_law_188
theorem eL_law_189 : wL_law B ad K 189 L r σ ↔ ∃ v, L[4]? = some (.int v) ∧ wL_law B ad K 191 L (.int v :: r) σ := xr_iload dL_law_189
theorem eL_law_191 : wL_law B ad K 191 L r σ ↔ wL_law B ad K 192 L (.int 4 :: r) σ := xr_iconst dL_law_191 (by decide)
theorem eL_law_192 {x y : Int32} : wL_law B ad K 192 L (.int y :: .int x :: r) σ ↔ wL_law B ad K 193 L (.int (x + y) :: r) σ := xr_iadd dL_law_192
theorem eL_law_193 {a : Nat} {x : Int32} : wL_law B ad K 193 L (.int x :: .ref a :: r) σ ↔ ∃ t V v, σ.1 a = some (t, V) ∧ (t = 100 ∨ t = 106) ∧ x_ix x V = some v ∧ wL_law B ad K 194 L (v :: r) σ := xr_iaload dL_law_193
theorem eL_law_194 {v0 v1 v2 v3 v4 : Value} : wL_law B ad K 194 L (v4 :: v3 :: v2 :: v1 :: v0 :: r) σ ↔ ((r.map fun v => v.category).sum ≤ 8 ∧ x_cl (x_v 7 (eX7_cls B ad)) [v0, v1, v2, v3, v4] σ (fun v g => wL_law B ad K 197 L (v.toList ++ r) g)) := xr_callV [v0, v1, v2, v3, v4] r dL_law_194 rfl
theorem eL_law_197 : wL_law B ad K 197 L r σ ↔ ∃ v, L[2]? = some v ∧ x_rfv v ∧ wL_law B ad K 198 L (v :: r) σ := xr_aload_n dL_law_197
theorem eL_law_198 : wL_law B ad K 198 L r σ ↔ ∃ v, L[0]? = some v ∧ x_rfv v ∧ wL_law B ad K 199 L (v :: r) σ := xr_aload_n dL_law_198
theorem eL_law_199 : wL_law B ad K 199 L r σ ↔ ∃ v, L[4]? = some (.int v) ∧ wL_law B ad K 201 L (.int v :: r) σ := xr_iload dL_law_199
theorem eL_law_201 : wL_law B ad K 201 L r σ ↔ wL_law B ad K 202 L (.int 1 :: r) σ := xr_iconst dL_law_201 (by decide)
theorem eL_law_202 {x y : Int32} : wL_law B ad K 202 L (.int y :: .int x :: r) σ ↔ wL_law B ad K 203 L (.int (x + y) :: r) σ := xr_iadd dL_law_202
theorem eL_law_203 {a : Nat} {x : Int32} : wL_law B ad K 203 L (.int x :: .ref a :: r) σ ↔ ∃ t V v, σ.1 a = some (t, V) ∧ (t = 100 ∨ t = 106) ∧ x_ix x V = some v ∧ wL_law B ad K 204 L (v :: r) σ := xr_iaload dL_law_203
theorem eL_law_204 : wL_law B ad K 204 L r σ ↔ ∃ v, L[0]? = some v ∧ x_rfv v ∧ wL_law B ad K 205 L (v :: r) σ := xr_aload_n dL_law_204
theorem eL_law_205 : wL_law B ad K 205 L r σ ↔ ∃ v, L[4]? = some (.int v) ∧ wL_law B ad K 207 L (.int v :: r) σ := xr_iload dL_law_205
theorem eL_law_207 : wL_law B ad K 207 L r σ ↔ wL_law B ad K 208 L (.int 2 :: r) σ := xr_iconst dL_law_207 (by decide)
theorem eL_law_208 {x y : Int32} : wL_law B ad K 208 L (.int y :: .int x :: r) σ ↔ wL_law B ad K 209 L (.int (x + y) :: r) σ := xr_iadd dL_law_208
theorem eL_law_209 {a : Nat} {x : Int32} : wL_law B ad K 209 L (.int x :: .ref a :: r) σ ↔ ∃ t V v, σ.1 a = some (t, V) ∧ (t = 100 ∨ t = 106) ∧ x_ix x V = some v ∧ wL_law B ad K 210 L (v :: r) σ := xr_iaload dL_law_209
theorem eL_law_210 : wL_law B ad K 210 L r σ ↔ ∃ v, L[0]? = some v ∧ x_rfv v ∧ wL_law B ad K 211 L (v :: r) σ := xr_aload_n dL_law_210
theorem eL_law_211 : wL_law B ad K 211 L r σ ↔ ∃ v, L[4]? = some (.int v) ∧ wL_law B ad K 213 L (.int v :: r) σ := xr_iload dL_law_211
theorem eL_law_213 : wL_law B ad K 213 L r σ ↔ wL_law B ad K 214 L (.int 3 :: r) σ := xr_iconst dL_law_213 (by decide)
theorem eL_law_214 {x y : Int32} : wL_law B ad K 214 L (.int y :: .int x :: r) σ ↔ wL_law B ad K 215 L (.int (x + y) :: r) σ := xr_iadd dL_law_214
theorem eL_law_215 {a : Nat} {x : Int32} : wL_law B ad K 215 L (.int x :: .ref a :: r) σ ↔ ∃ t V v, σ.1 a = some (t, V) ∧ (t = 100 ∨ t = 106) ∧ x_ix x V = some v ∧ wL_law B ad K 216 L (v :: r) σ := xr_iaload dL_law_215
theorem eL_law_216 : wL_law B ad K 216 L r σ ↔ ∃ v, L[0]? = some v ∧ x_rfv v ∧ wL_law B ad K 217 L (v :: r) σ := xr_aload_n dL_law_216
theorem eL_law_217 : wL_law B ad K 217 L r σ ↔ ∃ v, L[4]? = some (.int v) ∧ wL_law B ad K 219 L (.int v :: r) σ := xr_iload dL_law_217
theorem eL_law_219 : wL_law B ad K 219 L r σ ↔ wL_law B ad K 220 L (.int 4 :: r) σ := xr_iconst dL_law_219 (by decide)
theorem eL_law_220 {x y : Int32} : wL_law B ad K 220 L (.int y :: .int x :: r) σ ↔ wL_law B ad K 221 L (.int (x + y) :: r) σ := xr_iadd dL_law_220
theorem eL_law_221 {a : Nat} {x : Int32} : wL_law B ad K 221 L (.int x :: .ref a :: r) σ ↔ ∃ t V v, σ.1 a = some (t, V) ∧ (t = 100 ∨ t = 106) ∧ x_ix x V = some v ∧ wL_law B ad K 222 L (v :: r) σ := xr_iaload dL_law_221
theorem eL_law_222 {v0 v1 v2 v3 v4 : Value} : wL_law B ad K 222 L (v4 :: v3 :: v2 :: v1 :: v0 :: r) σ ↔ ((r.map fun v => v.category).sum ≤ 8 ∧ x_cl (x_v 8 (eX8_cls B ad)) [v0, v1, v2, v3, v4] σ (fun v g => wL_law B ad K 225 L (v.toList ++ r) g)) := xr_callV [v0, v1, v2, v3, v4] r dL_law_222 rfl
theorem eL_law_225 {x y : Int32} : wL_law B ad K 225 L (.int y :: .int x :: r) σ ↔ (if x = y then wL_law B ad K 762 L r σ else wL_law B ad K 228 L r σ) := (xr_icmp_eq dL_law_225 (by decide)).trans x_ite
theorem eL_law_228 : wL_law B ad K 228 L r σ ↔ wL_law B ad K 229 L (.int 0 :: r) σ := xr_iconst dL_law_228 (by decide)
theorem eL_law_229 {x : Int32} : wL_law B ad K 229 L [.int x] σ ↔ ((x = 0 ∨ x = 1) ∧ K (some (.int x)) σ) := xr_zreturn dL_law_229
theorem eL_law_230 : wL_law B ad K 230 L r σ ↔ ∃ v, L[1]? = some v ∧ x_rfv v ∧ wL_law B ad K 231 L (v :: r) σ := xr_aload_n dL_law_230
theorem eL_law_231 : wL_law B ad K 231 L r σ ↔ ∃ v, L[0]? = some v ∧ x_rfv v ∧ wL_law B ad K 232 L (v :: r) σ := xr_aload_n dL_law_231
theorem eL_law_232 : wL_law B ad K 232 L r σ ↔ ∃ v, L[4]? = some (.int v) ∧ wL_law B ad K 234 L (.int v :: r) σ := xr_iload dL_law_232
theorem eL_law_234 : wL_law B ad K 234 L r σ ↔ wL_law B ad K 235 L (.int 1 :: r) σ := xr_iconst dL_law_234 (by decide)
theorem eL_law_235 {x y : Int32} : wL_law B ad K 235 L (.int y :: .int x :: r) σ ↔ wL_law B ad K 236 L (.int (x + y) :: r) σ := xr_iadd dL_law_235
theorem eL_law_236 {a : Nat} {x : Int32} : wL_law B ad K 236 L (.int x :: .ref a :: r) σ ↔ ∃ t V v, σ.1 a = some (t, V) ∧ (t = 100 ∨ t = 106) ∧ x_ix x V = some v ∧ wL_law B ad K 237 L (v :: r) σ := xr_iaload dL_law_236
theorem eL_law_237 : wL_law B ad K 237 L r σ ↔ ∃ v, L[0]? = some v ∧ x_rfv v ∧ wL_law B ad K 238 L (v :: r) σ := xr_aload_n dL_law_237
theorem eL_law_238 : wL_law B ad K 238 L r σ ↔ ∃ v, L[4]? = some (.int v) ∧ wL_law B ad K 240 L (.int v :: r) σ := xr_iload dL_law_238
theorem eL_law_240 : wL_law B ad K 240 L r σ ↔ wL_law B ad K 241 L (.int 2 :: r) σ := xr_iconst dL_law_240 (by decide)
theorem eL_law_241 {x y : Int32} : wL_law B ad K 241 L (.int y :: .int x :: r) σ ↔ wL_law B ad K 242 L (.int (x + y) :: r) σ := xr_iadd dL_law_241
theorem eL_law_242 {a : Nat} {x : Int32} : wL_law B ad K 242 L (.int x :: .ref a :: r) σ ↔ ∃ t V v, σ.1 a = some (t, V) ∧ (t = 100 ∨ t = 106) ∧ x_ix x V = some v ∧ wL_law B ad K 243 L (v :: r) σ := xr_iaload dL_law_242
theorem eL_law_243 {v0 v1 v2 : Value} : wL_law B ad K 243 L (v2 :: v1 :: v0 :: r) σ ↔ ((r.map fun v => v.category).sum ≤ 8 ∧ x_cl (x_v 7 (eX7_box B ad)) [v0, v1, v2] σ (fun v g => wL_law B ad K 246 L (v.toList ++ r) g)) := xr_callV [v0, v1, v2] r dL_law_243 rfl
theorem eL_law_246 : wL_law B ad K 246 L r σ ↔ ∃ v, L[2]? = some v ∧ x_rfv v ∧ wL_law B ad K 247 L (v :: r) σ := xr_aload_n dL_law_246
theorem eL_law_247 : wL_law B ad K 247 L r σ ↔ ∃ v, L[0]? = some v ∧ x_rfv v ∧ wL_law B ad K 248 L (v :: r) σ := xr_aload_n dL_law_247
theorem eL_law_248 : wL_law B ad K 248 L r σ ↔ ∃ v, L[4]? = some (.int v) ∧ wL_law B ad K 250 L (.int v :: r) σ := xr_iload dL_law_248
theorem eL_law_250 : wL_law B ad K 250 L r σ ↔ wL_law B ad K 251 L (.int 1 :: r) σ := xr_iconst dL_law_250 (by decide)
theorem eL_law_251 {x y : Int32} : wL_law B ad K 251 L (.int y :: .int x :: r) σ ↔ wL_law B ad K 252 L (.int (x + y) :: r) σ := xr_iadd dL_law_251
theorem eL_law_252 {a : Nat} {x : Int32} : wL_law B ad K 252 L (.int x :: .ref a :: r) σ ↔ ∃ t V v, σ.1 a = some (t, V) ∧ (t = 100 ∨ t = 106) ∧ x_ix x V = some v ∧ wL_law B ad K 253 L (v :: r) σ := xr_iaload dL_law_252
theorem eL_law_253 : wL_law B ad K 253 L r σ ↔ ∃ v, L[0]? = some v ∧ x_rfv v ∧ wL_law B ad K 254 L (v :: r) σ := xr_aload_n dL_law_253
theorem eL_law_254 : wL_law B ad K 254 L r σ ↔ ∃ v, L[4]? = some (.int v) ∧ wL_law B ad K 256 L (.int v :: r) σ := xr_iload dL_law_254
theorem eL_law_256 : wL_law B ad K 256 L r σ ↔ wL_law B ad K 257 L (.int 2 :: r) σ := xr_iconst dL_law_256 (by decide)
theorem eL_law_257 {x y : Int32} : wL_law B ad K 257 L (.int y :: .int x :: r) σ ↔ wL_law B ad K 258 L (.int (x + y) :: r) σ := xr_iadd dL_law_257
theorem eL_law_258 {a : Nat} {x : Int32} : wL_law B ad K 258 L (.int x :: .ref a :: r) σ ↔ ∃ t V v, σ.1 a = some (t, V) ∧ (t = 100 ∨ t = 106) ∧ x_ix x V = some v ∧ wL_law B ad K 259 L (v :: r) σ := xr_iaload dL_law_258
theorem eL_law_259 {v0 v1 v2 : Value} : wL_law B ad K 259 L (v2 :: v1 :: v0 :: r) σ ↔ ((r.map fun v => v.category).sum ≤ 8 ∧ x_cl (x_v 8 (eX8_box B ad)) [v0, v1, v2] σ (fun v g => wL_law B ad K 262 L (v.toList ++ r) g)) := xr_callV [v0, v1, v2] r dL_law_259 rfl
theorem eL_law_262 {x y : Int32} : wL_law B ad K 262 L (.int y :: .int x :: r) σ ↔ (if x = y then wL_law B ad K 762 L r σ else wL_law B ad K 265 L r σ) := (xr_icmp_eq dL_law_262 (by decide)).trans x_ite
theorem eL_law_265 : wL_law B ad K 265 L r σ ↔ wL_law B ad K 266 L (.int 0 :: r) σ := xr_iconst dL_law_265 (by decide)
theorem eL_law_266 {x : Int32} : wL_law B ad K 266 L [.int x] σ ↔ ((x = 0 ∨ x = 1) ∧ K (some (.int x)) σ) := xr_zreturn dL_law_266
theorem eL_law_267 : wL_law B ad K 267 L r σ ↔ ∃ v, L[1]? = some v ∧ x_rfv v ∧ wL_law B ad K 268 L (v :: r) σ := xr_aload_n dL_law_267
theorem eL_law_268 : wL_law B ad K 268 L r σ ↔ ∃ v, L[0]? = some v ∧ x_rfv v ∧ wL_law B ad K 269 L (v :: r) σ := xr_aload_n dL_law_268
theorem eL_law_269 : wL_law B ad K 269 L r σ ↔ ∃ v, L[4]? = some (.int v) ∧ wL_law B ad K 271 L (.int v :: r) σ := xr_iload dL_law_269
theorem eL_law_271 : wL_law B ad K 271 L r σ ↔ wL_law B ad K 272 L (.int 1 :: r) σ := xr_iconst dL_law_271 (by decide)
theorem eL_law_272 {x y : Int32} : wL_law B ad K 272 L (.int y :: .int x :: r) σ ↔ wL_law B ad K 273 L (.int (x + y) :: r) σ := xr_iadd dL_law_272
theorem eL_law_273 {a : Nat} {x : Int32} : wL_law B ad K 273 L (.int x :: .ref a :: r) σ ↔ ∃ t V v, σ.1 a = some (t, V) ∧ (t = 100 ∨ t = 106) ∧ x_ix x V = some v ∧ wL_law B ad K 274 L (v :: r) σ := xr_iaload dL_law_273
theorem eL_law_274 : wL_law B ad K 274 L r σ ↔ ∃ v, L[0]? = some v ∧ x_rfv v ∧ wL_law B ad K 275 L (v :: r) σ := xr_aload_n dL_law_274
theorem eL_law_275 : wL_law B ad K 275 L r σ ↔ ∃ v, L[4]? = some (.int v) ∧ wL_law B ad K 277 L (.int v :: r) σ := xr_iload dL_law_275
theorem eL_law_277 : wL_law B ad K 277 L r σ ↔ wL_law B ad K 278 L (.int 2 :: r) σ := xr_iconst dL_law_277 (by decide)
theorem eL_law_278 {x y : Int32} : wL_law B ad K 278 L (.int y :: .int x :: r) σ ↔ wL_law B ad K 279 L (.int (x + y) :: r) σ := xr_iadd dL_law_278
theorem eL_law_279 {a : Nat} {x : Int32} : wL_law B ad K 279 L (.int x :: .ref a :: r) σ ↔ ∃ t V v, σ.1 a = some (t, V) ∧ (t = 100 ∨ t = 106) ∧ x_ix x V = some v ∧ wL_law B ad K 280 L (v :: r) σ := xr_iaload dL_law_279
theorem eL_law_280 : wL_law B ad K 280 L r σ ↔ ∃ v, L[0]? = some v ∧ x_rfv v ∧ wL_law B ad K 281 L (v :: r) σ := xr_aload_n dL_law_280
theorem eL_law_281 : wL_law B ad K 281 L r σ ↔ ∃ v, L[4]? = some (.int v) ∧ wL_law B ad K 283 L (.int v :: r) σ := xr_iload dL_law_281
theorem eL_law_283 : wL_law B ad K 283 L r σ ↔ wL_law B ad K 284 L (.int 3 :: r) σ := xr_iconst dL_law_283 (by decide)
theorem eL_law_284 {x y : Int32} : wL_law B ad K 284 L (.int y :: .int x :: r) σ ↔ wL_law B ad K 285 L (.int (x + y) :: r) σ := xr_iadd dL_law_284
theorem eL_law_285 {a : Nat} {x : Int32} : wL_law B ad K 285 L (.int x :: .ref a :: r) σ ↔ ∃ t V v, σ.1 a = some (t, V) ∧ (t = 100 ∨ t = 106) ∧ x_ix x V = some v ∧ wL_law B ad K 286 L (v :: r) σ := xr_iaload dL_law_285
theorem eL_law_286 : wL_law B ad K 286 L r σ ↔ ∃ v, L[0]? = some v ∧ x_rfv v ∧ wL_law B ad K 287 L (v :: r) σ := xr_aload_n dL_law_286
theorem eL_law_287 : wL_law B ad K 287 L r σ ↔ ∃ v, L[4]? = some (.int v) ∧ wL_law B ad K 289 L (.int v :: r) σ := xr_iload dL_law_287
theorem eL_law_289 : wL_law B ad K 289 L r σ ↔ wL_law B ad K 290 L (.int 4 :: r) σ := xr_iconst dL_law_289 (by decide)
theorem eL_law_290 {x y : Int32} : wL_law B ad K 290 L (.int y :: .int x :: r) σ ↔ wL_law B ad K 291 L (.int (x + y) :: r) σ := xr_iadd dL_law_290
theorem eL_law_291 {a : Nat} {x : Int32} : wL_law B ad K 291 L (.int x :: .ref a :: r) σ ↔ ∃ t V v, σ.1 a = some (t, V) ∧ (t = 100 ∨ t = 106) ∧ x_ix x V = some v ∧ wL_law B ad K 292 L (v :: r) σ := xr_iaload dL_law_291
theorem eL_law_292 {v0 v1 v2 v3 v4 : Value} : wL_law B ad K 292 L (v4 :: v3 :: v2 :: v1 :: v0 :: r) σ ↔ ((r.map fun v => v.category).sum ≤ 8 ∧ x_cl (x_v 7 (eX7_glue B ad)) [v0, v1, v2, v3, v4] σ (fun v g => wL_law B ad K 295 L (v.toList ++ r) g)) := xr_callV [v0, v1, v2, v3, v4] r dL_law_292 rfl
theorem eL_law_295 : wL_law B ad K 295 L r σ ↔ ∃ v, L[2]? = some v ∧ x_rfv v ∧ wL_law B ad K 296 L (v :: r) σ := xr_aload_n dL_law_295
theorem eL_law_296 : wL_law B ad K 296 L r σ ↔ ∃ v, L[0]? = some v ∧ x_rfv v ∧ wL_law B ad K 297 L (v :: r) σ := xr_aload_n dL_law_296
theorem eL_law_297 : wL_law B ad K 297 L r σ ↔ ∃ v, L[4]? = some (.int v) ∧ wL_law B ad K 299 L (.int v :: r) σ := xr_iload dL_law_297
theorem eL_law_299 : wL_law B ad K 299 L r σ ↔ wL_law B ad K 300 L (.int 1 :: r) σ := xr_iconst dL_law_299 (by decide)
theorem eL_law_300 {x y : Int32} : wL_law B ad K 300 L (.int y :: .int x :: r) σ ↔ wL_law B ad K 301 L (.int (x + y) :: r) σ := xr_iadd dL_law_300
theorem eL_law_301 {a : Nat} {x : Int32} : wL_law B ad K 301 L (.int x :: .ref a :: r) σ ↔ ∃ t V v, σ.1 a = some (t, V) ∧ (t = 100 ∨ t = 106) ∧ x_ix x V = some v ∧ wL_law B ad K 302 L (v :: r) σ := xr_iaload dL_law_301
theorem eL_law_302 : wL_law B ad K 302 L r σ ↔ ∃ v, L[0]? = some v ∧ x_rfv v ∧ wL_law B ad K 303 L (v :: r) σ := xr_aload_n dL_law_302
theorem eL_law_303 : wL_law B ad K 303 L r σ ↔ ∃ v, L[4]? = some (.int v) ∧ wL_law B ad K 305 L (.int v :: r) σ := xr_iload dL_law_303
theorem eL_law_305 : wL_law B ad K 305 L r σ ↔ wL_law B ad K 306 L (.int 2 :: r) σ := xr_iconst dL_law_305 (by decide)
theorem eL_law_306 {x y : Int32} : wL_law B ad K 306 L (.int y :: .int x :: r) σ ↔ wL_law B ad K 307 L (.int (x + y) :: r) σ := xr_iadd dL_law_306
theorem eL_law_307 {a : Nat} {x : Int32} : wL_law B ad K 307 L (.int x :: .ref a :: r) σ ↔ ∃ t V v, σ.1 a = some (t, V) ∧ (t = 100 ∨ t = 106) ∧ x_ix x V = some v ∧ wL_law B ad K 308 L (v :: r) σ := xr_iaload dL_law_307
theorem eL_law_308 : wL_law B ad K 308 L r σ ↔ ∃ v, L[0]? = some v ∧ x_rfv v ∧ wL_law B ad K 309 L (v :: r) σ := xr_aload_n dL_law_308
theorem eL_law_309 : wL_law B ad K 309 L r σ ↔ ∃ v, L[4]? = some (.int v) ∧ wL_law B ad K 311 L (.int v :: r) σ := xr_iload dL_law_309
theorem eL_law_311 : wL_law B ad K 311 L r σ ↔ wL_law B ad K 312 L (.int 3 :: r) σ := xr_iconst dL_law_311 (by decide)
theorem eL_law_312 {x y : Int32} : wL_law B ad K 312 L (.int y :: .int x :: r) σ ↔ wL_law B ad K 313 L (.int (x + y) :: r) σ := xr_iadd dL_law_312
theorem eL_law_313 {a : Nat} {x : Int32} : wL_law B ad K 313 L (.int x :: .ref a :: r) σ ↔ ∃ t V v, σ.1 a = some (t, V) ∧ (t = 100 ∨ t = 106) ∧ x_ix x V = some v ∧ wL_law B ad K 314 L (v :: r) σ := xr_iaload dL_law_313
theorem eL_law_314 : wL_law B ad K 314 L r σ ↔ ∃ v, L[0]? = some v ∧ x_rfv v ∧ wL_law B ad K 315 L (v :: r) σ := xr_aload_n dL_law_314
theorem eL_law_315 : wL_law B ad K 315 L r σ ↔ ∃ v, L[4]? = some (.int v) ∧ wL_law B ad K 317 L (.int v :: r) σ := xr_iload dL_law_315
theorem eL_law_317 : wL_law B ad K 317 L r σ ↔ wL_law B ad K 318 L (.int 4 :: r) σ := xr_iconst dL_law_317 (by decide)
theorem eL_law_318 {x y : Int32} : wL_law B ad K 318 L (.int y :: .int x :: r) σ ↔ wL_law B ad K 319 L (.int (x + y) :: r) σ := xr_iadd dL_law_318
theorem eL_law_319 {a : Nat} {x : Int32} : wL_law B ad K 319 L (.int x :: .ref a :: r) σ ↔ ∃ t V v, σ.1 a = some (t, V) ∧ (t = 100 ∨ t = 106) ∧ x_ix x V = some v ∧ wL_law B ad K 320 L (v :: r) σ := xr_iaload dL_law_319
theorem eL_law_320 {v0 v1 v2 v3 v4 : Value} : wL_law B ad K 320 L (v4 :: v3 :: v2 :: v1 :: v0 :: r) σ ↔ ((r.map fun v => v.category).sum ≤ 8 ∧ x_cl (x_v 8 (eX8_glue B ad)) [v0, v1, v2, v3, v4] σ (fun v g => wL_law B ad K 323 L (v.toList ++ r) g)) := xr_callV [v0, v1, v2, v3, v4] r dL_law_320 rfl
theorem eL_law_323 {x y : Int32} : wL_law B ad K 323 L (.int y :: .int x :: r) σ ↔ (if x = y then wL_law B ad K 762 L r σ else wL_law B ad K 326 L r σ) := (xr_icmp_eq dL_law_323 (by decide)).trans x_ite
theorem eL_law_326 : wL_law B ad K 326 L r σ ↔ wL_law B ad K 327 L (.int 0 :: r) σ := xr_iconst dL_law_326 (by decide)
theorem eL_law_327 {x : Int32} : wL_law B ad K 327 L [.int x] σ ↔ ((x = 0 ∨ x = 1) ∧ K (some (.int x)) σ) := xr_zreturn dL_law_327
theorem eL_law_328 : wL_law B ad K 328 L r σ ↔ ∃ v, L[1]? = some v ∧ x_rfv v ∧ wL_law B ad K 329 L (v :: r) σ := xr_aload_n dL_law_328
theorem eL_law_329 : wL_law B ad K 329 L r σ ↔ ∃ v, L[0]? = some v ∧ x_rfv v ∧ wL_law B ad K 330 L (v :: r) σ := xr_aload_n dL_law_329
theorem eL_law_330 : wL_law B ad K 330 L r σ ↔ ∃ v, L[4]? = some (.int v) ∧ wL_law B ad K 332 L (.int v :: r) σ := xr_iload dL_law_330
theorem eL_law_332 : wL_law B ad K 332 L r σ ↔ wL_law B ad K 333 L (.int 1 :: r) σ := xr_iconst dL_law_332 (by decide)
theorem eL_law_333 {x y : Int32} : wL_law B ad K 333 L (.int y :: .int x :: r) σ ↔ wL_law B ad K 334 L (.int (x + y) :: r) σ := xr_iadd dL_law_333
theorem eL_law_334 {a : Nat} {x : Int32} : wL_law B ad K 334 L (.int x :: .ref a :: r) σ ↔ ∃ t V v, σ.1 a = some (t, V) ∧ (t = 100 ∨ t = 106) ∧ x_ix x V = some v ∧ wL_law B ad K 335 L (v :: r) σ := xr_iaload dL_law_334
theorem eL_law_335 {v0 v1 : Value} : wL_law B ad K 335 L (v1 :: v0 :: r) σ ↔ ((r.map fun v => v.category).sum ≤ 8 ∧ x_cl (x_v 7 (eX7_kern B ad)) [v0, v1] σ (fun v g => wL_law B ad K 338 L (v.toList ++ r) g)) := xr_callV [v0, v1] r dL_law_335 rfl
theorem eL_law_338 : wL_law B ad K 338 L r σ ↔ ∃ v, L[2]? = some v ∧ x_rfv v ∧ wL_law B ad K 339 L (v :: r) σ := xr_aload_n dL_law_338
theorem eL_law_339 : wL_law B ad K 339 L r σ ↔ ∃ v, L[0]? = some v ∧ x_rfv v ∧ wL_law B ad K 340 L (v :: r) σ := xr_aload_n dL_law_339
theorem eL_law_340 : wL_law B ad K 340 L r σ ↔ ∃ v, L[4]? = some (.int v) ∧ wL_law B ad K 342 L (.int v :: r) σ := xr_iload dL_law_340
theorem eL_law_342 : wL_law B ad K 342 L r σ ↔ wL_law B ad K 343 L (.int 1 :: r) σ := xr_iconst dL_law_342 (by decide)
theorem eL_law_343 {x y : Int32} : wL_law B ad K 343 L (.int y :: .int x :: r) σ ↔ wL_law B ad K 344 L (.int (x + y) :: r) σ := xr_iadd dL_law_343
theorem eL_law_344 {a : Nat} {x : Int32} : wL_law B ad K 344 L (.int x :: .ref a :: r) σ ↔ ∃ t V v, σ.1 a = some (t, V) ∧ (t = 100 ∨ t = 106) ∧ x_ix x V = some v ∧ wL_law B ad K 345 L (v :: r) σ := xr_iaload dL_law_344
theorem eL_law_345 {v0 v1 : Value} : wL_law B ad K 345 L (v1 :: v0 :: r) σ ↔ ((r.map fun v => v.category).sum ≤ 8 ∧ x_cl (x_v 8 (eX8_kern B ad)) [v0, v1] σ (fun v g => wL_law B ad K 348 L (v.toList ++ r) g)) := xr_callV [v0, v1] r dL_law_345 rfl
theorem eL_law_348 {x y : Int32} : wL_law B ad K 348 L (.int y :: .int x :: r) σ ↔ (if x = y then wL_law B ad K 762 L r σ else wL_law B ad K 351 L r σ) := (xr_icmp_eq dL_law_348 (by decide)).trans x_ite
theorem eL_law_351 : wL_law B ad K 351 L r σ ↔ wL_law B ad K 352 L (.int 0 :: r) σ := xr_iconst dL_law_351 (by decide)
theorem eL_law_352 {x : Int32} : wL_law B ad K 352 L [.int x] σ ↔ ((x = 0 ∨ x = 1) ∧ K (some (.int x)) σ) := xr_zreturn dL_law_352
theorem eL_law_353 : wL_law B ad K 353 L r σ ↔ ∃ v, L[1]? = some v ∧ x_rfv v ∧ wL_law B ad K 354 L (v :: r) σ := xr_aload_n dL_law_353
theorem eL_law_354 : wL_law B ad K 354 L r σ ↔ ∃ v, L[0]? = some v ∧ x_rfv v ∧ wL_law B ad K 355 L (v :: r) σ := xr_aload_n dL_law_354
theorem eL_law_355 : wL_law B ad K 355 L r σ ↔ ∃ v, L[4]? = some (.int v) ∧ wL_law B ad K 357 L (.int v :: r) σ := xr_iload dL_law_355
theorem eL_law_357 : wL_law B ad K 357 L r σ ↔ wL_law B ad K 358 L (.int 1 :: r) σ := xr_iconst dL_law_357 (by decide)
theorem eL_law_358 {x y : Int32} : wL_law B ad K 358 L (.int y :: .int x :: r) σ ↔ wL_law B ad K 359 L (.int (x + y) :: r) σ := xr_iadd dL_law_358
theorem eL_law_359 {a : Nat} {x : Int32} : wL_law B ad K 359 L (.int x :: .ref a :: r) σ ↔ ∃ t V v, σ.1 a = some (t, V) ∧ (t = 100 ∨ t = 106) ∧ x_ix x V = some v ∧ wL_law B ad K 360 L (v :: r) σ := xr_iaload dL_law_359
theorem eL_law_360 {v0 v1 : Value} : wL_law B ad K 360 L (v1 :: v0 :: r) σ ↔ ((r.map fun v => v.category).sum ≤ 8 ∧ x_cl (x_v 7 (eX7_penalty B ad)) [v0, v1] σ (fun v g => wL_law B ad K 363 L (v.toList ++ r) g)) := xr_callV [v0, v1] r dL_law_360 rfl
theorem eL_law_363 : wL_law B ad K 363 L r σ ↔ ∃ v, L[2]? = some v ∧ x_rfv v ∧ wL_law B ad K 364 L (v :: r) σ := xr_aload_n dL_law_363
theorem eL_law_364 : wL_law B ad K 364 L r σ ↔ ∃ v, L[0]? = some v ∧ x_rfv v ∧ wL_law B ad K 365 L (v :: r) σ := xr_aload_n dL_law_364
theorem eL_law_365 : wL_law B ad K 365 L r σ ↔ ∃ v, L[4]? = some (.int v) ∧ wL_law B ad K 367 L (.int v :: r) σ := xr_iload dL_law_365
theorem eL_law_367 : wL_law B ad K 367 L r σ ↔ wL_law B ad K 368 L (.int 1 :: r) σ := xr_iconst dL_law_367 (by decide)
theorem eL_law_368 {x y : Int32} : wL_law B ad K 368 L (.int y :: .int x :: r) σ ↔ wL_law B ad K 369 L (.int (x + y) :: r) σ := xr_iadd dL_law_368
theorem eL_law_369 {a : Nat} {x : Int32} : wL_law B ad K 369 L (.int x :: .ref a :: r) σ ↔ ∃ t V v, σ.1 a = some (t, V) ∧ (t = 100 ∨ t = 106) ∧ x_ix x V = some v ∧ wL_law B ad K 370 L (v :: r) σ := xr_iaload dL_law_369
theorem eL_law_370 {v0 v1 : Value} : wL_law B ad K 370 L (v1 :: v0 :: r) σ ↔ ((r.map fun v => v.category).sum ≤ 8 ∧ x_cl (x_v 8 (eX8_penalty B ad)) [v0, v1] σ (fun v g => wL_law B ad K 373 L (v.toList ++ r) g)) := xr_callV [v0, v1] r dL_law_370 rfl
theorem eL_law_373 {x y : Int32} : wL_law B ad K 373 L (.int y :: .int x :: r) σ ↔ (if x = y then wL_law B ad K 762 L r σ else wL_law B ad K 376 L r σ) := (xr_icmp_eq dL_law_373 (by decide)).trans x_ite
theorem eL_law_376 : wL_law B ad K 376 L r σ ↔ wL_law B ad K 377 L (.int 0 :: r) σ := xr_iconst dL_law_376 (by decide)
theorem eL_law_377 {x : Int32} : wL_law B ad K 377 L [.int x] σ ↔ ((x = 0 ∨ x = 1) ∧ K (some (.int x)) σ) := xr_zreturn dL_law_377
theorem eL_law_378 : wL_law B ad K 378 L r σ ↔ ∃ v, L[1]? = some v ∧ x_rfv v ∧ wL_law B ad K 379 L (v :: r) σ := xr_aload_n dL_law_378
theorem eL_law_379 : wL_law B ad K 379 L r σ ↔ ∃ v, L[0]? = some v ∧ x_rfv v ∧ wL_law B ad K 380 L (v :: r) σ := xr_aload_n dL_law_379
theorem eL_law_380 : wL_law B ad K 380 L r σ ↔ ∃ v, L[4]? = some (.int v) ∧ wL_law B ad K 382 L (.int v :: r) σ := xr_iload dL_law_380
theorem eL_law_382 : wL_law B ad K 382 L r σ ↔ wL_law B ad K 383 L (.int 1 :: r) σ := xr_iconst dL_law_382 (by decide)
theorem eL_law_383 {x y : Int32} : wL_law B ad K 383 L (.int y :: .int x :: r) σ ↔ wL_law B ad K 384 L (.int (x + y) :: r) σ := xr_iadd dL_law_383
theorem eL_law_384 {a : Nat} {x : Int32} : wL_law B ad K 384 L (.int x :: .ref a :: r) σ ↔ ∃ t V v, σ.1 a = some (t, V) ∧ (t = 100 ∨ t = 106) ∧ x_ix x V = some v ∧ wL_law B ad K 385 L (v :: r) σ := xr_iaload dL_law_384
theorem eL_law_385 : wL_law B ad K 385 L r σ ↔ ∃ v, L[0]? = some v ∧ x_rfv v ∧ wL_law B ad K 386 L (v :: r) σ := xr_aload_n dL_law_385
theorem eL_law_386 : wL_law B ad K 386 L r σ ↔ ∃ v, L[4]? = some (.int v) ∧ wL_law B ad K 388 L (.int v :: r) σ := xr_iload dL_law_386
theorem eL_law_388 : wL_law B ad K 388 L r σ ↔ wL_law B ad K 389 L (.int 2 :: r) σ := xr_iconst dL_law_388 (by decide)
theorem eL_law_389 {x y : Int32} : wL_law B ad K 389 L (.int y :: .int x :: r) σ ↔ wL_law B ad K 390 L (.int (x + y) :: r) σ := xr_iadd dL_law_389
theorem eL_law_390 {a : Nat} {x : Int32} : wL_law B ad K 390 L (.int x :: .ref a :: r) σ ↔ ∃ t V v, σ.1 a = some (t, V) ∧ (t = 100 ∨ t = 106) ∧ x_ix x V = some v ∧ wL_law B ad K 391 L (v :: r) σ := xr_iaload dL_law_390
theorem eL_law_391 : wL_law B ad K 391 L r σ ↔ ∃ v, L[0]? = some v ∧ x_rfv v ∧ wL_law B ad K 392 L (v :: r) σ := xr_aload_n dL_law_391
theorem eL_law_392 : wL_law B ad K 392 L r σ ↔ ∃ v, L[4]? = some (.int v) ∧ wL_law B ad K 394 L (.int v :: r) σ := xr_iload dL_law_392
theorem eL_law_394 : wL_law B ad K 394 L r σ ↔ wL_law B ad K 395 L (.int 3 :: r) σ := xr_iconst dL_law_394 (by decide)
theorem eL_law_395 {x y : Int32} : wL_law B ad K 395 L (.int y :: .int x :: r) σ ↔ wL_law B ad K 396 L (.int (x + y) :: r) σ := xr_iadd dL_law_395
theorem eL_law_396 {a : Nat} {x : Int32} : wL_law B ad K 396 L (.int x :: .ref a :: r) σ ↔ ∃ t V v, σ.1 a = some (t, V) ∧ (t = 100 ∨ t = 106) ∧ x_ix x V = some v ∧ wL_law B ad K 397 L (v :: r) σ := xr_iaload dL_law_396
theorem eL_law_397 {x : Int32} : wL_law B ad K 397 L (.int x :: r) σ ↔ (if x = 0 then wL_law B ad K 404 L r σ else wL_law B ad K 400 L r σ) := (xr_if_eq dL_law_397 (by decide)).trans x_ite
theorem eL_law_400 : wL_law B ad K 400 L r σ ↔ wL_law B ad K 401 L (.int 1 :: r) σ := xr_iconst dL_law_400 (by decide)
theorem eL_law_401 : wL_law B ad K 401 L r σ ↔ wL_law B ad K 405 L r σ := xr_goto dL_law_401 (by decide)
theorem eL_law_404 : wL_law B ad K 404 L r σ ↔ wL_law B ad K 405 L (.int 0 :: r) σ := xr_iconst dL_law_404 (by decide)
theorem eL_law_405 {v0 v1 v2 v3 : Value} : wL_law B ad K 405 L (v3 :: v2 :: v1 :: v0 :: r) σ ↔ ((r.map fun v => v.category).sum ≤ 8 ∧ x_cl (x_v 7 (eX7_insert B ad)) [v0, v1, v2, v3] σ (fun v g => wL_law B ad K 408 L (v.toList ++ r) g)) := xr_callV [v0, v1, v2, v3] r dL_law_405 rfl
theorem eL_law_408 : wL_law B ad K 408 L r σ ↔ ∃ v, L[2]? = some v ∧ x_rfv v ∧ wL_law B ad K 409 L (v :: r) σ := xr_aload_n dL_law_408
theorem eL_law_409 : wL_law B ad K 409 L r σ ↔ ∃ v, L[0]? = some v ∧ x_rfv v ∧ wL_law B ad K 410 L (v :: r) σ := xr_aload_n dL_law_409
theorem eL_law_410 : wL_law B ad K 410 L r σ ↔ ∃ v, L[4]? = some (.int v) ∧ wL_law B ad K 412 L (.int v :: r) σ := xr_iload dL_law_410
theorem eL_law_412 : wL_law B ad K 412 L r σ ↔ wL_law B ad K 413 L (.int 1 :: r) σ := xr_iconst dL_law_412 (by decide)
theorem eL_law_413 {x y : Int32} : wL_law B ad K 413 L (.int y :: .int x :: r) σ ↔ wL_law B ad K 414 L (.int (x + y) :: r) σ := xr_iadd dL_law_413
theorem eL_law_414 {a : Nat} {x : Int32} : wL_law B ad K 414 L (.int x :: .ref a :: r) σ ↔ ∃ t V v, σ.1 a = some (t, V) ∧ (t = 100 ∨ t = 106) ∧ x_ix x V = some v ∧ wL_law B ad K 415 L (v :: r) σ := xr_iaload dL_law_414
theorem eL_law_415 : wL_law B ad K 415 L r σ ↔ ∃ v, L[0]? = some v ∧ x_rfv v ∧ wL_law B ad K 416 L (v :: r) σ := xr_aload_n dL_law_415
theorem eL_law_416 : wL_law B ad K 416 L r σ ↔ ∃ v, L[4]? = some (.int v) ∧ wL_law B ad K 418 L (.int v :: r) σ := xr_iload dL_law_416
theorem eL_law_418 : wL_law B ad K 418 L r σ ↔ wL_law B ad K 419 L (.int 2 :: r) σ := xr_iconst dL_law_418 (by decide)
theorem eL_law_419 {x y : Int32} : wL_law B ad K 419 L (.int y :: .int x :: r) σ ↔ wL_law B ad K 420 L (.int (x + y) :: r) σ := xr_iadd dL_law_419
theorem eL_law_420 {a : Nat} {x : Int32} : wL_law B ad K 420 L (.int x :: .ref a :: r) σ ↔ ∃ t V v, σ.1 a = some (t, V) ∧ (t = 100 ∨ t = 106) ∧ x_ix x V = some v ∧ wL_law B ad K 421 L (v :: r) σ := xr_iaload dL_law_420
theorem eL_law_421 : wL_law B ad K 421 L r σ ↔ ∃ v, L[0]? = some v ∧ x_rfv v ∧ wL_law B ad K 422 L (v :: r) σ := xr_aload_n dL_law_421
theorem eL_law_422 : wL_law B ad K 422 L r σ ↔ ∃ v, L[4]? = some (.int v) ∧ wL_law B ad K 424 L (.int v :: r) σ := xr_iload dL_law_422
theorem eL_law_424 : wL_law B ad K 424 L r σ ↔ wL_law B ad K 425 L (.int 3 :: r) σ := xr_iconst dL_law_424 (by decide)
theorem eL_law_425 {x y : Int32} : wL_law B ad K 425 L (.int y :: .int x :: r) σ ↔ wL_law B ad K 426 L (.int (x + y) :: r) σ := xr_iadd dL_law_425
theorem eL_law_426 {a : Nat} {x : Int32} : wL_law B ad K 426 L (.int x :: .ref a :: r) σ ↔ ∃ t V v, σ.1 a = some (t, V) ∧ (t = 100 ∨ t = 106) ∧ x_ix x V = some v ∧ wL_law B ad K 427 L (v :: r) σ := xr_iaload dL_law_426
theorem eL_law_427 {x : Int32} : wL_law B ad K 427 L (.int x :: r) σ ↔ (if x = 0 then wL_law B ad K 434 L r σ else wL_law B ad K 430 L r σ) := (xr_if_eq dL_law_427 (by decide)).trans x_ite
theorem eL_law_430 : wL_law B ad K 430 L r σ ↔ wL_law B ad K 431 L (.int 1 :: r) σ := xr_iconst dL_law_430 (by decide)
theorem eL_law_431 : wL_law B ad K 431 L r σ ↔ wL_law B ad K 435 L r σ := xr_goto dL_law_431 (by decide)
theorem eL_law_434 : wL_law B ad K 434 L r σ ↔ wL_law B ad K 435 L (.int 0 :: r) σ := xr_iconst dL_law_434 (by decide)
theorem eL_law_435 {v0 v1 v2 v3 : Value} : wL_law B ad K 435 L (v3 :: v2 :: v1 :: v0 :: r) σ ↔ ((r.map fun v => v.category).sum ≤ 8 ∧ x_cl (x_v 8 (eX8_insert B ad)) [v0, v1, v2, v3] σ (fun v g => wL_law B ad K 438 L (v.toList ++ r) g)) := xr_callV [v0, v1, v2, v3] r dL_law_435 rfl
theorem eL_law_438 {x y : Int32} : wL_law B ad K 438 L (.int y :: .int x :: r) σ ↔ (if x = y then wL_law B ad K 762 L r σ else wL_law B ad K 441 L r σ) := (xr_icmp_eq dL_law_438 (by decide)).trans x_ite
theorem eL_law_441 : wL_law B ad K 441 L r σ ↔ wL_law B ad K 442 L (.int 0 :: r) σ := xr_iconst dL_law_441 (by decide)
theorem eL_law_442 {x : Int32} : wL_law B ad K 442 L [.int x] σ ↔ ((x = 0 ∨ x = 1) ∧ K (some (.int x)) σ) := xr_zreturn dL_law_442
theorem eL_law_443 : wL_law B ad K 443 L r σ ↔ ∃ v, L[1]? = some v ∧ x_rfv v ∧ wL_law B ad K 444 L (v :: r) σ := xr_aload_n dL_law_443
theorem eL_law_444 : wL_law B ad K 444 L r σ ↔ ∃ v, L[0]? = some v ∧ x_rfv v ∧ wL_law B ad K 445 L (v :: r) σ := xr_aload_n dL_law_444
theorem eL_law_445 : wL_law B ad K 445 L r σ ↔ ∃ v, L[4]? = some (.int v) ∧ wL_law B ad K 447 L (.int v :: r) σ := xr_iload dL_law_445
theorem eL_law_447 : wL_law B ad K 447 L r σ ↔ wL_law B ad K 448 L (.int 1 :: r) σ := xr_iconst dL_law_447 (by decide)
theorem eL_law_448 {x y : Int32} : wL_law B ad K 448 L (.int y :: .int x :: r) σ ↔ wL_law B ad K 449 L (.int (x + y) :: r) σ := xr_iadd dL_law_448
theorem eL_law_449 {a : Nat} {x : Int32} : wL_law B ad K 449 L (.int x :: .ref a :: r) σ ↔ ∃ t V v, σ.1 a = some (t, V) ∧ (t = 100 ∨ t = 106) ∧ x_ix x V = some v ∧ wL_law B ad K 450 L (v :: r) σ := xr_iaload dL_law_449
theorem eL_law_450 {v0 v1 : Value} : wL_law B ad K 450 L (v1 :: v0 :: r) σ ↔ ((r.map fun v => v.category).sum ≤ 8 ∧ x_cl (x_v 7 (eX7_mark B ad)) [v0, v1] σ (fun v g => wL_law B ad K 453 L (v.toList ++ r) g)) := xr_callV [v0, v1] r dL_law_450 rfl
theorem eL_law_453 : wL_law B ad K 453 L r σ ↔ ∃ v, L[2]? = some v ∧ x_rfv v ∧ wL_law B ad K 454 L (v :: r) σ := xr_aload_n dL_law_453
theorem eL_law_454 : wL_law B ad K 454 L r σ ↔ ∃ v, L[0]? = some v ∧ x_rfv v ∧ wL_law B ad K 455 L (v :: r) σ := xr_aload_n dL_law_454
theorem eL_law_455 : wL_law B ad K 455 L r σ ↔ ∃ v, L[4]? = some (.int v) ∧ wL_law B ad K 457 L (.int v :: r) σ := xr_iload dL_law_455
theorem eL_law_457 : wL_law B ad K 457 L r σ ↔ wL_law B ad K 458 L (.int 1 :: r) σ := xr_iconst dL_law_457 (by decide)
theorem eL_law_458 {x y : Int32} : wL_law B ad K 458 L (.int y :: .int x :: r) σ ↔ wL_law B ad K 459 L (.int (x + y) :: r) σ := xr_iadd dL_law_458
theorem eL_law_459 {a : Nat} {x : Int32} : wL_law B ad K 459 L (.int x :: .ref a :: r) σ ↔ ∃ t V v, σ.1 a = some (t, V) ∧ (t = 100 ∨ t = 106) ∧ x_ix x V = some v ∧ wL_law B ad K 460 L (v :: r) σ := xr_iaload dL_law_459
theorem eL_law_460 {v0 v1 : Value} : wL_law B ad K 460 L (v1 :: v0 :: r) σ ↔ ((r.map fun v => v.category).sum ≤ 8 ∧ x_cl (x_v 8 (eX8_mark B ad)) [v0, v1] σ (fun v g => wL_law B ad K 463 L (v.toList ++ r) g)) := xr_callV [v0, v1] r dL_law_460 rfl
theorem eL_law_463 {x y : Int32} : wL_law B ad K 463 L (.int y :: .int x :: r) σ ↔ (if x = y then wL_law B ad K 762 L r σ else wL_law B ad K 466 L r σ) := (xr_icmp_eq dL_law_463 (by decide)).trans x_ite
theorem eL_law_466 : wL_law B ad K 466 L r σ ↔ wL_law B ad K 467 L (.int 0 :: r) σ := xr_iconst dL_law_466 (by decide)
theorem eL_law_467 {x : Int32} : wL_law B ad K 467 L [.int x] σ ↔ ((x = 0 ∨ x = 1) ∧ K (some (.int x)) σ) := xr_zreturn dL_law_467
theorem eL_law_468 : wL_law B ad K 468 L r σ ↔ ∃ v, L[1]? = some v ∧ x_rfv v ∧ wL_law B ad K 469 L (v :: r) σ := xr_aload_n dL_law_468
theorem eL_law_469 {v0 : Value} : wL_law B ad K 469 L (v0 :: r) σ ↔ ((r.map fun v => v.category).sum ≤ 8 ∧ x_cl (x_v 7 (eX7_run B ad)) [v0] σ (fun v g => wL_law B ad K 472 L (v.toList ++ r) g)) := xr_callV [v0] r dL_law_469 rfl
theorem eL_law_472 : wL_law B ad K 472 L r σ ↔ ∃ v, L[2]? = some v ∧ x_rfv v ∧ wL_law B ad K 473 L (v :: r) σ := xr_aload_n dL_law_472
theorem eL_law_473 {v0 : Value} : wL_law B ad K 473 L (v0 :: r) σ ↔ ((r.map fun v => v.category).sum ≤ 8 ∧ x_cl (x_v 8 (eX8_run B ad)) [v0] σ (fun v g => wL_law B ad K 476 L (v.toList ++ r) g)) := xr_callV [v0] r dL_law_473 rfl
theorem eL_law_476 {x y : Int32} : wL_law B ad K 476 L (.int y :: .int x :: r) σ ↔ (if x = y then wL_law B ad K 762 L r σ else wL_law B ad K 479 L r σ) := (xr_icmp_eq dL_law_476 (by decide)).trans x_ite
theorem eL_law_479 : wL_law B ad K 479 L r σ ↔ wL_law B ad K 480 L (.int 0 :: r) σ := xr_iconst dL_law_479 (by decide)
theorem eL_law_480 {x : Int32} : wL_law B ad K 480 L [.int x] σ ↔ ((x = 0 ∨ x = 1) ∧ K (some (.int x)) σ) := xr_zreturn dL_law_480
theorem eL_law_481 : wL_law B ad K 481 L r σ ↔ ∃ v, L[1]? = some v ∧ x_rfv v ∧ wL_law B ad K 482 L (v :: r) σ := xr_aload_n dL_law_481
theorem eL_law_482 : wL_law B ad K 482 L r σ ↔ ∃ v, L[0]? = some v ∧ x_rfv v ∧ wL_law B ad K 483 L (v :: r) σ := xr_aload_n dL_law_482
theorem eL_law_483 : wL_law B ad K 483 L r σ ↔ ∃ v, L[4]? = some (.int v) ∧ wL_law B ad K 485 L (.int v :: r) σ := xr_iload dL_law_483
theorem eL_law_485 : wL_law B ad K 485 L r σ ↔ wL_law B ad K 486 L (.int 1 :: r) σ := xr_iconst dL_law_485 (by decide)
theorem eL_law_486 {x y : Int32} : wL_law B ad K 486 L (.int y :: .int x :: r) σ ↔ wL_law B ad K 487 L (.int (x + y) :: r) σ := xr_iadd dL_law_486
theorem eL_law_487 {a : Nat} {x : Int32} : wL_law B ad K 487 L (.int x :: .ref a :: r) σ ↔ ∃ t V v, σ.1 a = some (t, V) ∧ (t = 100 ∨ t = 106) ∧ x_ix x V = some v ∧ wL_law B ad K 488 L (v :: r) σ := xr_iaload dL_law_487
theorem eL_law_488 : wL_law B ad K 488 L r σ ↔ ∃ v, L[0]? = some v ∧ x_rfv v ∧ wL_law B ad K 489 L (v :: r) σ := xr_aload_n dL_law_488
theorem eL_law_489 : wL_law B ad K 489 L r σ ↔ ∃ v, L[4]? = some (.int v) ∧ wL_law B ad K 491 L (.int v :: r) σ := xr_iload dL_law_489
theorem eL_law_491 : wL_law B ad K 491 L r σ ↔ wL_law B ad K 492 L (.int 2 :: r) σ := xr_iconst dL_law_491 (by decide)
theorem eL_law_492 {x y : Int32} : wL_law B ad K 492 L (.int y :: .int x :: r) σ ↔ wL_law B ad K 493 L (.int (x + y) :: r) σ := xr_iadd dL_law_492
theorem eL_law_493 {a : Nat} {x : Int32} : wL_law B ad K 493 L (.int x :: .ref a :: r) σ ↔ ∃ t V v, σ.1 a = some (t, V) ∧ (t = 100 ∨ t = 106) ∧ x_ix x V = some v ∧ wL_law B ad K 494 L (v :: r) σ := xr_iaload dL_law_493
theorem eL_law_494 {v0 v1 v2 : Value} : wL_law B ad K 494 L (v2 :: v1 :: v0 :: r) σ ↔ ((r.map fun v => v.category).sum ≤ 8 ∧ x_cl (x_v 7 (eX7_at B ad)) [v0, v1, v2] σ (fun v g => wL_law B ad K 497 L (v.toList ++ r) g)) := xr_callV [v0, v1, v2] r dL_law_494 rfl
theorem eL_law_497 : wL_law B ad K 497 L r σ ↔ ∃ v, L[2]? = some v ∧ x_rfv v ∧ wL_law B ad K 498 L (v :: r) σ := xr_aload_n dL_law_497
theorem eL_law_498 : wL_law B ad K 498 L r σ ↔ ∃ v, L[0]? = some v ∧ x_rfv v ∧ wL_law B ad K 499 L (v :: r) σ := xr_aload_n dL_law_498
theorem eL_law_499 : wL_law B ad K 499 L r σ ↔ ∃ v, L[4]? = some (.int v) ∧ wL_law B ad K 501 L (.int v :: r) σ := xr_iload dL_law_499
theorem eL_law_501 : wL_law B ad K 501 L r σ ↔ wL_law B ad K 502 L (.int 1 :: r) σ := xr_iconst dL_law_501 (by decide)
theorem eL_law_502 {x y : Int32} : wL_law B ad K 502 L (.int y :: .int x :: r) σ ↔ wL_law B ad K 503 L (.int (x + y) :: r) σ := xr_iadd dL_law_502
theorem eL_law_503 {a : Nat} {x : Int32} : wL_law B ad K 503 L (.int x :: .ref a :: r) σ ↔ ∃ t V v, σ.1 a = some (t, V) ∧ (t = 100 ∨ t = 106) ∧ x_ix x V = some v ∧ wL_law B ad K 504 L (v :: r) σ := xr_iaload dL_law_503
theorem eL_law_504 : wL_law B ad K 504 L r σ ↔ ∃ v, L[0]? = some v ∧ x_rfv v ∧ wL_law B ad K 505 L (v :: r) σ := xr_aload_n dL_law_504
theorem eL_law_505 : wL_law B ad K 505 L r σ ↔ ∃ v, L[4]? = some (.int v) ∧ wL_law B ad K 507 L (.int v :: r) σ := xr_iload dL_law_505
theorem eL_law_507 : wL_law B ad K 507 L r σ ↔ wL_law B ad K 508 L (.int 2 :: r) σ := xr_iconst dL_law_507 (by decide)
theorem eL_law_508 {x y : Int32} : wL_law B ad K 508 L (.int y :: .int x :: r) σ ↔ wL_law B ad K 509 L (.int (x + y) :: r) σ := xr_iadd dL_law_508
theorem eL_law_509 {a : Nat} {x : Int32} : wL_law B ad K 509 L (.int x :: .ref a :: r) σ ↔ ∃ t V v, σ.1 a = some (t, V) ∧ (t = 100 ∨ t = 106) ∧ x_ix x V = some v ∧ wL_law B ad K 510 L (v :: r) σ := xr_iaload dL_law_509
theorem eL_law_510 {v0 v1 v2 : Value} : wL_law B ad K 510 L (v2 :: v1 :: v0 :: r) σ ↔ ((r.map fun v => v.category).sum ≤ 8 ∧ x_cl (x_v 8 (eX8_at B ad)) [v0, v1, v2] σ (fun v g => wL_law B ad K 513 L (v.toList ++ r) g)) := xr_callV [v0, v1, v2] r dL_law_510 rfl
theorem eL_law_513 {x y : Int32} : wL_law B ad K 513 L (.int y :: .int x :: r) σ ↔ (if x = y then wL_law B ad K 762 L r σ else wL_law B ad K 516 L r σ) := (xr_icmp_eq dL_law_513 (by decide)).trans x_ite
theorem eL_law_516 : wL_law B ad K 516 L r σ ↔ wL_law B ad K 517 L (.int 0 :: r) σ := xr_iconst dL_law_516 (by decide)
theorem eL_law_517 {x : Int32} : wL_law B ad K 517 L [.int x] σ ↔ ((x = 0 ∨ x = 1) ∧ K (some (.int x)) σ) := xr_zreturn dL_law_517
theorem eL_law_518 : wL_law B ad K 518 L r σ ↔ ∃ v, L[1]? = some v ∧ x_rfv v ∧ wL_law B ad K 519 L (v :: r) σ := xr_aload_n dL_law_518
theorem eL_law_519 : wL_law B ad K 519 L r σ ↔ ∃ v, L[0]? = some v ∧ x_rfv v ∧ wL_law B ad K 520 L (v :: r) σ := xr_aload_n dL_law_519
theorem eL_law_520 : wL_law B ad K 520 L r σ ↔ ∃ v, L[4]? = some (.int v) ∧ wL_law B ad K 522 L (.int v :: r) σ := xr_iload dL_law_520
theorem eL_law_522 : wL_law B ad K 522 L r σ ↔ wL_law B ad K 523 L (.int 1 :: r) σ := xr_iconst dL_law_522 (by decide)
theorem eL_law_523 {x y : Int32} : wL_law B ad K 523 L (.int y :: .int x :: r) σ ↔ wL_law B ad K 524 L (.int (x + y) :: r) σ := xr_iadd dL_law_523
theorem eL_law_524 {a : Nat} {x : Int32} : wL_law B ad K 524 L (.int x :: .ref a :: r) σ ↔ ∃ t V v, σ.1 a = some (t, V) ∧ (t = 100 ∨ t = 106) ∧ x_ix x V = some v ∧ wL_law B ad K 525 L (v :: r) σ := xr_iaload dL_law_524
theorem eL_law_525 : wL_law B ad K 525 L r σ ↔ ∃ v, L[0]? = some v ∧ x_rfv v ∧ wL_law B ad K 526 L (v :: r) σ := xr_aload_n dL_law_525
theorem eL_law_526 : wL_law B ad K 526 L r σ ↔ ∃ v, L[4]? = some (.int v) ∧ wL_law B ad K 528 L (.int v :: r) σ := xr_iload dL_law_526
theorem eL_law_528 : wL_law B ad K 528 L r σ ↔ wL_law B ad K 529 L (.int 2 :: r) σ := xr_iconst dL_law_528 (by decide)
theorem eL_law_529 {x y : Int32} : wL_law B ad K 529 L (.int y :: .int x :: r) σ ↔ wL_law B ad K 530 L (.int (x + y) :: r) σ := xr_iadd dL_law_529
theorem eL_law_530 {a : Nat} {x : Int32} : wL_law B ad K 530 L (.int x :: .ref a :: r) σ ↔ ∃ t V v, σ.1 a = some (t, V) ∧ (t = 100 ∨ t = 106) ∧ x_ix x V = some v ∧ wL_law B ad K 531 L (v :: r) σ := xr_iaload dL_law_530
theorem eL_law_531 {v0 v1 v2 : Value} : wL_law B ad K 531 L (v2 :: v1 :: v0 :: r) σ ↔ ((r.map fun v => v.category).sum ≤ 8 ∧ x_cl (x_v 7 (eX7_part B ad)) [v0, v1, v2] σ (fun v g => wL_law B ad K 534 L (v.toList ++ r) g)) := xr_callV [v0, v1, v2] r dL_law_531 rfl
theorem eL_law_534 : wL_law B ad K 534 L r σ ↔ ∃ v, L[2]? = some v ∧ x_rfv v ∧ wL_law B ad K 535 L (v :: r) σ := xr_aload_n dL_law_534
theorem eL_law_535 : wL_law B ad K 535 L r σ ↔ ∃ v, L[0]? = some v ∧ x_rfv v ∧ wL_law B ad K 536 L (v :: r) σ := xr_aload_n dL_law_535
theorem eL_law_536 : wL_law B ad K 536 L r σ ↔ ∃ v, L[4]? = some (.int v) ∧ wL_law B ad K 538 L (.int v :: r) σ := xr_iload dL_law_536
theorem eL_law_538 : wL_law B ad K 538 L r σ ↔ wL_law B ad K 539 L (.int 1 :: r) σ := xr_iconst dL_law_538 (by decide)
theorem eL_law_539 {x y : Int32} : wL_law B ad K 539 L (.int y :: .int x :: r) σ ↔ wL_law B ad K 540 L (.int (x + y) :: r) σ := xr_iadd dL_law_539
theorem eL_law_540 {a : Nat} {x : Int32} : wL_law B ad K 540 L (.int x :: .ref a :: r) σ ↔ ∃ t V v, σ.1 a = some (t, V) ∧ (t = 100 ∨ t = 106) ∧ x_ix x V = some v ∧ wL_law B ad K 541 L (v :: r) σ := xr_iaload dL_law_540
theorem eL_law_541 : wL_law B ad K 541 L r σ ↔ ∃ v, L[0]? = some v ∧ x_rfv v ∧ wL_law B ad K 542 L (v :: r) σ := xr_aload_n dL_law_541
theorem eL_law_542 : wL_law B ad K 542 L r σ ↔ ∃ v, L[4]? = some (.int v) ∧ wL_law B ad K 544 L (.int v :: r) σ := xr_iload dL_law_542
theorem eL_law_544 : wL_law B ad K 544 L r σ ↔ wL_law B ad K 545 L (.int 2 :: r) σ := xr_iconst dL_law_544 (by decide)
theorem eL_law_545 {x y : Int32} : wL_law B ad K 545 L (.int y :: .int x :: r) σ ↔ wL_law B ad K 546 L (.int (x + y) :: r) σ := xr_iadd dL_law_545
theorem eL_law_546 {a : Nat} {x : Int32} : wL_law B ad K 546 L (.int x :: .ref a :: r) σ ↔ ∃ t V v, σ.1 a = some (t, V) ∧ (t = 100 ∨ t = 106) ∧ x_ix x V = some v ∧ wL_law B ad K 547 L (v :: r) σ := xr_iaload dL_law_546
theorem eL_law_547 {v0 v1 v2 : Value} : wL_law B ad K 547 L (v2 :: v1 :: v0 :: r) σ ↔ ((r.map fun v => v.category).sum ≤ 8 ∧ x_cl (x_v 8 (eX8_part B ad)) [v0, v1, v2] σ (fun v g => wL_law B ad K 550 L (v.toList ++ r) g)) := xr_callV [v0, v1, v2] r dL_law_547 rfl
theorem eL_law_550 {x y : Int32} : wL_law B ad K 550 L (.int y :: .int x :: r) σ ↔ (if x = y then wL_law B ad K 762 L r σ else wL_law B ad K 553 L r σ) := (xr_icmp_eq dL_law_550 (by decide)).trans x_ite
theorem eL_law_553 : wL_law B ad K 553 L r σ ↔ wL_law B ad K 554 L (.int 0 :: r) σ := xr_iconst dL_law_553 (by decide)
theorem eL_law_554 {x : Int32} : wL_law B ad K 554 L [.int x] σ ↔ ((x = 0 ∨ x = 1) ∧ K (some (.int x)) σ) := xr_zreturn dL_law_554
theorem eL_law_555 : wL_law B ad K 555 L r σ ↔ ∃ v, L[1]? = some v ∧ x_rfv v ∧ wL_law B ad K 556 L (v :: r) σ := xr_aload_n dL_law_555
theorem eL_law_556 : wL_law B ad K 556 L r σ ↔ ∃ v, L[0]? = some v ∧ x_rfv v ∧ wL_law B ad K 557 L (v :: r) σ := xr_aload_n dL_law_556
theorem eL_law_557 : wL_law B ad K 557 L r σ ↔ ∃ v, L[4]? = some (.int v) ∧ wL_law B ad K 559 L (.int v :: r) σ := xr_iload dL_law_557
theorem eL_law_559 : wL_law B ad K 559 L r σ ↔ wL_law B ad K 560 L (.int 1 :: r) σ := xr_iconst dL_law_559 (by decide)
theorem eL_law_560 {x y : Int32} : wL_law B ad K 560 L (.int y :: .int x :: r) σ ↔ wL_law B ad K 561 L (.int (x + y) :: r) σ := xr_iadd dL_law_560
theorem eL_law_561 {a : Nat} {x : Int32} : wL_law B ad K 561 L (.int x :: .ref a :: r) σ ↔ ∃ t V v, σ.1 a = some (t, V) ∧ (t = 100 ∨ t = 106) ∧ x_ix x V = some v ∧ wL_law B ad K 562 L (v :: r) σ := xr_iaload dL_law_561
theorem eL_law_562 : wL_law B ad K 562 L r σ ↔ ∃ v, L[0]? = some v ∧ x_rfv v ∧ wL_law B ad K 563 L (v :: r) σ := xr_aload_n dL_law_562
theorem eL_law_563 : wL_law B ad K 563 L r σ ↔ ∃ v, L[4]? = some (.int v) ∧ wL_law B ad K 565 L (.int v :: r) σ := xr_iload dL_law_563
theorem eL_law_565 : wL_law B ad K 565 L r σ ↔ wL_law B ad K 566 L (.int 2 :: r) σ := xr_iconst dL_law_565 (by decide)
theorem eL_law_566 {x y : Int32} : wL_law B ad K 566 L (.int y :: .int x :: r) σ ↔ wL_law B ad K 567 L (.int (x + y) :: r) σ := xr_iadd dL_law_566
theorem eL_law_567 {a : Nat} {x : Int32} : wL_law B ad K 567 L (.int x :: .ref a :: r) σ ↔ ∃ t V v, σ.1 a = some (t, V) ∧ (t = 100 ∨ t = 106) ∧ x_ix x V = some v ∧ wL_law B ad K 568 L (v :: r) σ := xr_iaload dL_law_567
theorem eL_law_568 {v0 v1 v2 : Value} : wL_law B ad K 568 L (v2 :: v1 :: v0 :: r) σ ↔ ((r.map fun v => v.category).sum ≤ 8 ∧ x_cl (x_v 7 (eX7_told B ad)) [v0, v1, v2] σ (fun v g => wL_law B ad K 571 L (v.toList ++ r) g)) := xr_callV [v0, v1, v2] r dL_law_568 rfl
theorem eL_law_571 : wL_law B ad K 571 L r σ ↔ ∃ v, L[2]? = some v ∧ x_rfv v ∧ wL_law B ad K 572 L (v :: r) σ := xr_aload_n dL_law_571
theorem eL_law_572 : wL_law B ad K 572 L r σ ↔ ∃ v, L[0]? = some v ∧ x_rfv v ∧ wL_law B ad K 573 L (v :: r) σ := xr_aload_n dL_law_572
theorem eL_law_573 : wL_law B ad K 573 L r σ ↔ ∃ v, L[4]? = some (.int v) ∧ wL_law B ad K 575 L (.int v :: r) σ := xr_iload dL_law_573
theorem eL_law_575 : wL_law B ad K 575 L r σ ↔ wL_law B ad K 576 L (.int 1 :: r) σ := xr_iconst dL_law_575 (by decide)
theorem eL_law_576 {x y : Int32} : wL_law B ad K 576 L (.int y :: .int x :: r) σ ↔ wL_law B ad K 577 L (.int (x + y) :: r) σ := xr_iadd dL_law_576
theorem eL_law_577 {a : Nat} {x : Int32} : wL_law B ad K 577 L (.int x :: .ref a :: r) σ ↔ ∃ t V v, σ.1 a = some (t, V) ∧ (t = 100 ∨ t = 106) ∧ x_ix x V = some v ∧ wL_law B ad K 578 L (v :: r) σ := xr_iaload dL_law_577
theorem eL_law_578 : wL_law B ad K 578 L r σ ↔ ∃ v, L[0]? = some v ∧ x_rfv v ∧ wL_law B ad K 579 L (v :: r) σ := xr_aload_n dL_law_578
theorem eL_law_579 : wL_law B ad K 579 L r σ ↔ ∃ v, L[4]? = some (.int v) ∧ wL_law B ad K 581 L (.int v :: r) σ := xr_iload dL_law_579
theorem eL_law_581 : wL_law B ad K 581 L r σ ↔ wL_law B ad K 582 L (.int 2 :: r) σ := xr_iconst dL_law_581 (by decide)
theorem eL_law_582 {x y : Int32} : wL_law B ad K 582 L (.int y :: .int x :: r) σ ↔ wL_law B ad K 583 L (.int (x + y) :: r) σ := xr_iadd dL_law_582
theorem eL_law_583 {a : Nat} {x : Int32} : wL_law B ad K 583 L (.int x :: .ref a :: r) σ ↔ ∃ t V v, σ.1 a = some (t, V) ∧ (t = 100 ∨ t = 106) ∧ x_ix x V = some v ∧ wL_law B ad K 584 L (v :: r) σ := xr_iaload dL_law_583
theorem eL_law_584 {v0 v1 v2 : Value} : wL_law B ad K 584 L (v2 :: v1 :: v0 :: r) σ ↔ ((r.map fun v => v.category).sum ≤ 8 ∧ x_cl (x_v 8 (eX8_told B ad)) [v0, v1, v2] σ (fun v g => wL_law B ad K 587 L (v.toList ++ r) g)) := xr_callV [v0, v1, v2] r dL_law_584 rfl
theorem eL_law_587 {x y : Int64} : wL_law B ad K 587 L (.long y :: .long x :: r) σ ↔ wL_law B ad K 588 L (.int (lg_cmp x y) :: r) σ := xr_lcmp dL_law_587
theorem eL_law_588 {x : Int32} : wL_law B ad K 588 L (.int x :: r) σ ↔ (if x = 0 then wL_law B ad K 762 L r σ else wL_law B ad K 591 L r σ) := (xr_if_eq dL_law_588 (by decide)).trans x_ite
theorem eL_law_591 : wL_law B ad K 591 L r σ ↔ wL_law B ad K 592 L (.int 0 :: r) σ := xr_iconst dL_law_591 (by decide)
theorem eL_law_592 {x : Int32} : wL_law B ad K 592 L [.int x] σ ↔ ((x = 0 ∨ x = 1) ∧ K (some (.int x)) σ) := xr_zreturn dL_law_592
theorem eL_law_593 : wL_law B ad K 593 L r σ ↔ ∃ v, L[1]? = some v ∧ x_rfv v ∧ wL_law B ad K 594 L (v :: r) σ := xr_aload_n dL_law_593
theorem eL_law_594 : wL_law B ad K 594 L r σ ↔ ∃ v, L[0]? = some v ∧ x_rfv v ∧ wL_law B ad K 595 L (v :: r) σ := xr_aload_n dL_law_594
theorem eL_law_595 : wL_law B ad K 595 L r σ ↔ ∃ v, L[4]? = some (.int v) ∧ wL_law B ad K 597 L (.int v :: r) σ := xr_iload dL_law_595
theorem eL_law_597 : wL_law B ad K 597 L r σ ↔ wL_law B ad K 598 L (.int 1 :: r) σ := xr_iconst dL_law_597 (by decide)
theorem eL_law_598 {x y : Int32} : wL_law B ad K 598 L (.int y :: .int x :: r) σ ↔ wL_law B ad K 599 L (.int (x + y) :: r) σ := xr_iadd dL_law_598
theorem eL_law_599 {a : Nat} {x : Int32} : wL_law B ad K 599 L (.int x :: .ref a :: r) σ ↔ ∃ t V v, σ.1 a = some (t, V) ∧ (t = 100 ∨ t = 106) ∧ x_ix x V = some v ∧ wL_law B ad K 600 L (v :: r) σ := xr_iaload dL_law_599
theorem eL_law_600 : wL_law B ad K 600 L r σ ↔ ∃ v, L[0]? = some v ∧ x_rfv v ∧ wL_law B ad K 601 L (v :: r) σ := xr_aload_n dL_law_600
theorem eL_law_601 : wL_law B ad K 601 L r σ ↔ ∃ v, L[4]? = some (.int v) ∧ wL_law B ad K 603 L (.int v :: r) σ := xr_iload dL_law_601
theorem eL_law_603 : wL_law B ad K 603 L r σ ↔ wL_law B ad K 604 L (.int 2 :: r) σ := xr_iconst dL_law_603 (by decide)
theorem eL_law_604 {x y : Int32} : wL_law B ad K 604 L (.int y :: .int x :: r) σ ↔ wL_law B ad K 605 L (.int (x + y) :: r) σ := xr_iadd dL_law_604
theorem eL_law_605 {a : Nat} {x : Int32} : wL_law B ad K 605 L (.int x :: .ref a :: r) σ ↔ ∃ t V v, σ.1 a = some (t, V) ∧ (t = 100 ∨ t = 106) ∧ x_ix x V = some v ∧ wL_law B ad K 606 L (v :: r) σ := xr_iaload dL_law_605
theorem eL_law_606 : wL_law B ad K 606 L r σ ↔ ∃ v, L[3]? = some v ∧ x_rfv v ∧ wL_law B ad K 607 L (v :: r) σ := xr_aload_n dL_law_606
theorem eL_law_607 {v0 v1 v2 v3 : Value} : wL_law B ad K 607 L (v3 :: v2 :: v1 :: v0 :: r) σ ↔ ((r.map fun v => v.category).sum ≤ 8 ∧ x_cl (emk B ad) [v0, v1, v2, v3] σ (fun v g => wL_law B ad K 610 L (v.toList ++ r) g)) := xr_callS [v0, v1, v2, v3] r dL_law_607 rfl
theorem eL_law_610 {v : Int32} : wL_law B ad K 610 L (.int v :: r) σ ↔ (5 < L.length ∧ x_nl L 5 ∧ wL_law B ad K 612 (L.set 5 (.int v)) r σ) := xr_istore dL_law_610
theorem eL_law_612 : wL_law B ad K 612 L r σ ↔ ∃ v, L[2]? = some v ∧ x_rfv v ∧ wL_law B ad K 613 L (v :: r) σ := xr_aload_n dL_law_612
theorem eL_law_613 : wL_law B ad K 613 L r σ ↔ ∃ v, L[0]? = some v ∧ x_rfv v ∧ wL_law B ad K 614 L (v :: r) σ := xr_aload_n dL_law_613
theorem eL_law_614 : wL_law B ad K 614 L r σ ↔ ∃ v, L[4]? = some (.int v) ∧ wL_law B ad K 616 L (.int v :: r) σ := xr_iload dL_law_614
theorem eL_law_616 : wL_law B ad K 616 L r σ ↔ wL_law B ad K 617 L (.int 1 :: r) σ := xr_iconst dL_law_616 (by decide)
theorem eL_law_617 {x y : Int32} : wL_law B ad K 617 L (.int y :: .int x :: r) σ ↔ wL_law B ad K 618 L (.int (x + y) :: r) σ := xr_iadd dL_law_617
theorem eL_law_618 {a : Nat} {x : Int32} : wL_law B ad K 618 L (.int x :: .ref a :: r) σ ↔ ∃ t V v, σ.1 a = some (t, V) ∧ (t = 100 ∨ t = 106) ∧ x_ix x V = some v ∧ wL_law B ad K 619 L (v :: r) σ := xr_iaload dL_law_618
theorem eL_law_619 : wL_law B ad K 619 L r σ ↔ ∃ v, L[0]? = some v ∧ x_rfv v ∧ wL_law B ad K 620 L (v :: r) σ := xr_aload_n dL_law_619
theorem eL_law_620 : wL_law B ad K 620 L r σ ↔ ∃ v, L[4]? = some (.int v) ∧ wL_law B ad K 622 L (.int v :: r) σ := xr_iload dL_law_620
theorem eL_law_622 : wL_law B ad K 622 L r σ ↔ wL_law B ad K 623 L (.int 2 :: r) σ := xr_iconst dL_law_622 (by decide)
theorem eL_law_623 {x y : Int32} : wL_law B ad K 623 L (.int y :: .int x :: r) σ ↔ wL_law B ad K 624 L (.int (x + y) :: r) σ := xr_iadd dL_law_623
theorem eL_law_624 {a : Nat} {x : Int32} : wL_law B ad K 624 L (.int x :: .ref a :: r) σ ↔ ∃ t V v, σ.1 a = some (t, V) ∧ (t = 100 ∨ t = 106) ∧ x_ix x V = some v ∧ wL_law B ad K 625 L (v :: r) σ := xr_iaload dL_law_624
theorem eL_law_625 {v0 v1 v2 : Value} : wL_law B ad K 625 L (v2 :: v1 :: v0 :: r) σ ↔ ((r.map fun v => v.category).sum ≤ 8 ∧ x_cl (x_v 8 (eX8_marked B ad)) [v0, v1, v2] σ (fun v g => wL_law B ad K 628 L (v.toList ++ r) g)) := xr_callV [v0, v1, v2] r dL_law_625 rfl
theorem eL_law_628 {v : Int32} : wL_law B ad K 628 L (.int v :: r) σ ↔ (6 < L.length ∧ x_nl L 6 ∧ wL_law B ad K 630 (L.set 6 (.int v)) r σ) := xr_istore dL_law_628
theorem eL_law_630 : wL_law B ad K 630 L r σ ↔ ∃ v, L[2]? = some v ∧ x_rfv v ∧ wL_law B ad K 631 L (v :: r) σ := xr_aload_n dL_law_630
theorem eL_law_631 {v0 : Value} : wL_law B ad K 631 L (v0 :: r) σ ↔ ((r.map fun v => v.category).sum ≤ 8 ∧ x_cl (x_v 8 (eX8_thrown B ad)) [v0] σ (fun v g => wL_law B ad K 634 L (v.toList ++ r) g)) := xr_callV [v0] r dL_law_631 rfl
theorem eL_law_634 : wL_law B ad K 634 L r σ ↔ ∃ v, L[5]? = some (.int v) ∧ wL_law B ad K 636 L (.int v :: r) σ := xr_iload dL_law_634
theorem eL_law_636 {x y : Int32} : wL_law B ad K 636 L (.int y :: .int x :: r) σ ↔ (if x = y then wL_law B ad K 641 L r σ else wL_law B ad K 639 L r σ) := (xr_icmp_eq dL_law_636 (by decide)).trans x_ite
theorem eL_law_639 : wL_law B ad K 639 L r σ ↔ wL_law B ad K 640 L (.int 0 :: r) σ := xr_iconst dL_law_639 (by decide)
theorem eL_law_640 {x : Int32} : wL_law B ad K 640 L [.int x] σ ↔ ((x = 0 ∨ x = 1) ∧ K (some (.int x)) σ) := xr_zreturn dL_law_640
theorem eL_law_641 : wL_law B ad K 641 L r σ ↔ ∃ v, L[5]? = some (.int v) ∧ wL_law B ad K 643 L (.int v :: r) σ := xr_iload dL_law_641
theorem eL_law_643 {x : Int32} : wL_law B ad K 643 L (.int x :: r) σ ↔ (if x = 0 then wL_law B ad K 646 L r σ else wL_law B ad K 658 L r σ) := (xr_if_ne dL_law_643 (by decide)).trans x_ite
theorem eL_law_646 : wL_law B ad K 646 L r σ ↔ ∃ v, L[3]? = some v ∧ x_rfv v ∧ wL_law B ad K 647 L (v :: r) σ := xr_aload_n dL_law_646
theorem eL_law_647 : wL_law B ad K 647 L r σ ↔ wL_law B ad K 648 L (.int 0 :: r) σ := xr_iconst dL_law_647 (by decide)
theorem eL_law_648 {a : Nat} {x : Int32} : wL_law B ad K 648 L (.int x :: .ref a :: r) σ ↔ ∃ V v, σ.1 a = some (101, V) ∧ x_ix x V = some v ∧ wL_law B ad K 649 L (v :: r) σ := xr_laload dL_law_648
theorem eL_law_649 : wL_law B ad K 649 L r σ ↔ ∃ v, L[6]? = some (.int v) ∧ wL_law B ad K 651 L (.int v :: r) σ := xr_iload dL_law_649
theorem eL_law_651 {x : Int32} : wL_law B ad K 651 L (.int x :: r) σ ↔ wL_law B ad K 652 L (.long x.toInt64 :: r) σ := xr_i2l dL_law_651
theorem eL_law_652 {x y : Int64} : wL_law B ad K 652 L (.long y :: .long x :: r) σ ↔ wL_law B ad K 653 L (.int (lg_cmp x y) :: r) σ := xr_lcmp dL_law_652
theorem eL_law_653 {x : Int32} : wL_law B ad K 653 L (.int x :: r) σ ↔ (if x = 0 then wL_law B ad K 658 L r σ else wL_law B ad K 656 L r σ) := (xr_if_eq dL_law_653 (by decide)).trans x_ite
theorem eL_law_656 : wL_law B ad K 656 L r σ ↔ wL_law B ad K 657 L (.int 0 :: r) σ := xr_iconst dL_law_656 (by decide)
theorem eL_law_657 {x : Int32} : wL_law B ad K 657 L [.int x] σ ↔ ((x = 0 ∨ x = 1) ∧ K (some (.int x)) σ) := xr_zreturn dL_law_657
theorem eL_law_658 : wL_law B ad K 658 L r σ ↔ wL_law B ad K 762 L r σ := xr_goto dL_law_658 (by decide)
theorem eL_law_661 : wL_law B ad K 661 L r σ ↔ ∃ v, L[1]? = some v ∧ x_rfv v ∧ wL_law B ad K 662 L (v :: r) σ := xr_aload_n dL_law_661
theorem eL_law_662 : wL_law B ad K 662 L r σ ↔ ∃ v, L[0]? = some v ∧ x_rfv v ∧ wL_law B ad K 663 L (v :: r) σ := xr_aload_n dL_law_662
theorem eL_law_663 : wL_law B ad K 663 L r σ ↔ ∃ v, L[4]? = some (.int v) ∧ wL_law B ad K 665 L (.int v :: r) σ := xr_iload dL_law_663
theorem eL_law_665 : wL_law B ad K 665 L r σ ↔ wL_law B ad K 666 L (.int 1 :: r) σ := xr_iconst dL_law_665 (by decide)
theorem eL_law_666 {x y : Int32} : wL_law B ad K 666 L (.int y :: .int x :: r) σ ↔ wL_law B ad K 667 L (.int (x + y) :: r) σ := xr_iadd dL_law_666
theorem eL_law_667 {a : Nat} {x : Int32} : wL_law B ad K 667 L (.int x :: .ref a :: r) σ ↔ ∃ t V v, σ.1 a = some (t, V) ∧ (t = 100 ∨ t = 106) ∧ x_ix x V = some v ∧ wL_law B ad K 668 L (v :: r) σ := xr_iaload dL_law_667
theorem eL_law_668 {v0 v1 : Value} : wL_law B ad K 668 L (v1 :: v0 :: r) σ ↔ ((r.map fun v => v.category).sum ≤ 8 ∧ x_cl (x_v 7 (eX7_now B ad)) [v0, v1] σ (fun v g => wL_law B ad K 671 L (v.toList ++ r) g)) := xr_callV [v0, v1] r dL_law_668 rfl
theorem eL_law_671 : wL_law B ad K 671 L r σ ↔ ∃ v, L[2]? = some v ∧ x_rfv v ∧ wL_law B ad K 672 L (v :: r) σ := xr_aload_n dL_law_671
theorem eL_law_672 : wL_law B ad K 672 L r σ ↔ ∃ v, L[0]? = some v ∧ x_rfv v ∧ wL_law B ad K 673 L (v :: r) σ := xr_aload_n dL_law_672
theorem eL_law_673 : wL_law B ad K 673 L r σ ↔ ∃ v, L[4]? = some (.int v) ∧ wL_law B ad K 675 L (.int v :: r) σ := xr_iload dL_law_673
theorem eL_law_675 : wL_law B ad K 675 L r σ ↔ wL_law B ad K 676 L (.int 1 :: r) σ := xr_iconst dL_law_675 (by decide)
theorem eL_law_676 {x y : Int32} : wL_law B ad K 676 L (.int y :: .int x :: r) σ ↔ wL_law B ad K 677 L (.int (x + y) :: r) σ := xr_iadd dL_law_676
theorem eL_law_677 {a : Nat} {x : Int32} : wL_law B ad K 677 L (.int x :: .ref a :: r) σ ↔ ∃ t V v, σ.1 a = some (t, V) ∧ (t = 100 ∨ t = 106) ∧ x_ix x V = some v ∧ wL_law B ad K 678 L (v :: r) σ := xr_iaload dL_law_677
theorem eL_law_678 {v0 v1 : Value} : wL_law B ad K 678 L (v1 :: v0 :: r) σ ↔ ((r.map fun v => v.category).sum ≤ 8 ∧ x_cl (x_v 8 (eX8_now B ad)) [v0, v1] σ (fun v g => wL_law B ad K 681 L (v.toList ++ r) g)) := xr_callV [v0, v1] r dL_law_678 rfl
theorem eL_law_681 {x y : Int64} : wL_law B ad K 681 L (.long y :: .long x :: r) σ ↔ wL_law B ad K 682 L (.int (lg_cmp x y) :: r) σ := xr_lcmp dL_law_681
theorem eL_law_682 {x : Int32} : wL_law B ad K 682 L (.int x :: r) σ ↔ (if x = 0 then wL_law B ad K 762 L r σ else wL_law B ad K 685 L r σ) := (xr_if_eq dL_law_682 (by decide)).trans x_ite
theorem eL_law_685 : wL_law B ad K 685 L r σ ↔ wL_law B ad K 686 L (.int 0 :: r) σ := xr_iconst dL_law_685 (by decide)
theorem eL_law_686 {x : Int32} : wL_law B ad K 686 L [.int x] σ ↔ ((x = 0 ∨ x = 1) ∧ K (some (.int x)) σ) := xr_zreturn dL_law_686
theorem eL_law_687 : wL_law B ad K 687 L r σ ↔ ∃ v, L[1]? = some v ∧ x_rfv v ∧ wL_law B ad K 688 L (v :: r) σ := xr_aload_n dL_law_687
theorem eL_law_688 : wL_law B ad K 688 L r σ ↔ ∃ v, L[0]? = some v ∧ x_rfv v ∧ wL_law B ad K 689 L (v :: r) σ := xr_aload_n dL_law_688
theorem eL_law_689 : wL_law B ad K 689 L r σ ↔ ∃ v, L[4]? = some (.int v) ∧ wL_law B ad K 691 L (.int v :: r) σ := xr_iload dL_law_689
theorem eL_law_691 : wL_law B ad K 691 L r σ ↔ wL_law B ad K 692 L (.int 1 :: r) σ := xr_iconst dL_law_691 (by decide)
theorem eL_law_692 {x y : Int32} : wL_law B ad K 692 L (.int y :: .int x :: r) σ ↔ wL_law B ad K 693 L (.int (x + y) :: r) σ := xr_iadd dL_law_692
theorem eL_law_693 {a : Nat} {x : Int32} : wL_law B ad K 693 L (.int x :: .ref a :: r) σ ↔ ∃ t V v, σ.1 a = some (t, V) ∧ (t = 100 ∨ t = 106) ∧ x_ix x V = some v ∧ wL_law B ad K 694 L (v :: r) σ := xr_iaload dL_law_693
theorem eL_law_694 : wL_law B ad K 694 L r σ ↔ ∃ v, L[0]? = some v ∧ x_rfv v ∧ wL_law B ad K 695 L (v :: r) σ := xr_aload_n dL_law_694
theorem eL_law_695 : wL_law B ad K 695 L r σ ↔ ∃ v, L[4]? = some (.int v) ∧ wL_law B ad K 697 L (.int v :: r) σ := xr_iload dL_law_695
theorem eL_law_697 : wL_law B ad K 697 L r σ ↔ wL_law B ad K 698 L (.int 2 :: r) σ := xr_iconst dL_law_697 (by decide)
theorem eL_law_698 {x y : Int32} : wL_law B ad K 698 L (.int y :: .int x :: r) σ ↔ wL_law B ad K 699 L (.int (x + y) :: r) σ := xr_iadd dL_law_698
theorem eL_law_699 {a : Nat} {x : Int32} : wL_law B ad K 699 L (.int x :: .ref a :: r) σ ↔ ∃ t V v, σ.1 a = some (t, V) ∧ (t = 100 ∨ t = 106) ∧ x_ix x V = some v ∧ wL_law B ad K 700 L (v :: r) σ := xr_iaload dL_law_699
theorem eL_law_700 {v0 v1 v2 : Value} : wL_law B ad K 700 L (v2 :: v1 :: v0 :: r) σ ↔ ((r.map fun v => v.category).sum ≤ 8 ∧ x_cl (x_v 7 (eX7_badness B ad)) [v0, v1, v2] σ (fun v g => wL_law B ad K 703 L (v.toList ++ r) g)) := xr_callV [v0, v1, v2] r dL_law_700 rfl
theorem eL_law_703 : wL_law B ad K 703 L r σ ↔ ∃ v, L[2]? = some v ∧ x_rfv v ∧ wL_law B ad K 704 L (v :: r) σ := xr_aload_n dL_law_703
theorem eL_law_704 : wL_law B ad K 704 L r σ ↔ ∃ v, L[0]? = some v ∧ x_rfv v ∧ wL_law B ad K 705 L (v :: r) σ := xr_aload_n dL_law_704
theorem eL_law_705 : wL_law B ad K 705 L r σ ↔ ∃ v, L[4]? = some (.int v) ∧ wL_law B ad K 707 L (.int v :: r) σ := xr_iload dL_law_705
theorem eL_law_707 : wL_law B ad K 707 L r σ ↔ wL_law B ad K 708 L (.int 1 :: r) σ := xr_iconst dL_law_707 (by decide)
theorem eL_law_708 {x y : Int32} : wL_law B ad K 708 L (.int y :: .int x :: r) σ ↔ wL_law B ad K 709 L (.int (x + y) :: r) σ := xr_iadd dL_law_708
theorem eL_law_709 {a : Nat} {x : Int32} : wL_law B ad K 709 L (.int x :: .ref a :: r) σ ↔ ∃ t V v, σ.1 a = some (t, V) ∧ (t = 100 ∨ t = 106) ∧ x_ix x V = some v ∧ wL_law B ad K 710 L (v :: r) σ := xr_iaload dL_law_709
theorem eL_law_710 : wL_law B ad K 710 L r σ ↔ ∃ v, L[0]? = some v ∧ x_rfv v ∧ wL_law B ad K 711 L (v :: r) σ := xr_aload_n dL_law_710
theorem eL_law_711 : wL_law B ad K 711 L r σ ↔ ∃ v, L[4]? = some (.int v) ∧ wL_law B ad K 713 L (.int v :: r) σ := xr_iload dL_law_711
theorem eL_law_713 : wL_law B ad K 713 L r σ ↔ wL_law B ad K 714 L (.int 2 :: r) σ := xr_iconst dL_law_713 (by decide)
theorem eL_law_714 {x y : Int32} : wL_law B ad K 714 L (.int y :: .int x :: r) σ ↔ wL_law B ad K 715 L (.int (x + y) :: r) σ := xr_iadd dL_law_714
theorem eL_law_715 {a : Nat} {x : Int32} : wL_law B ad K 715 L (.int x :: .ref a :: r) σ ↔ ∃ t V v, σ.1 a = some (t, V) ∧ (t = 100 ∨ t = 106) ∧ x_ix x V = some v ∧ wL_law B ad K 716 L (v :: r) σ := xr_iaload dL_law_715
theorem eL_law_716 {v0 v1 v2 : Value} : wL_law B ad K 716 L (v2 :: v1 :: v0 :: r) σ ↔ ((r.map fun v => v.category).sum ≤ 8 ∧ x_cl (x_v 8 (eX8_badness B ad)) [v0, v1, v2] σ (fun v g => wL_law B ad K 719 L (v.toList ++ r) g)) := xr_callV [v0, v1, v2] r dL_law_716 rfl
theorem eL_law_719 {x y : Int32} : wL_law B ad K 719 L (.int y :: .int x :: r) σ ↔ (if x = y then wL_law B ad K 762 L r σ else wL_law B ad K 722 L r σ) := (xr_icmp_eq dL_law_719 (by decide)).trans x_ite
theorem eL_law_722 : wL_law B ad K 722 L r σ ↔ wL_law B ad K 723 L (.int 0 :: r) σ := xr_iconst dL_law_722 (by decide)
theorem eL_law_723 {x : Int32} : wL_law B ad K 723 L [.int x] σ ↔ ((x = 0 ∨ x = 1) ∧ K (some (.int x)) σ) := xr_zreturn dL_law_723
theorem eL_law_724 : wL_law B ad K 724 L r σ ↔ ∃ v, L[1]? = some v ∧ x_rfv v ∧ wL_law B ad K 725 L (v :: r) σ := xr_aload_n dL_law_724
theorem eL_law_725 : wL_law B ad K 725 L r σ ↔ ∃ v, L[0]? = some v ∧ x_rfv v ∧ wL_law B ad K 726 L (v :: r) σ := xr_aload_n dL_law_725
theorem eL_law_726 : wL_law B ad K 726 L r σ ↔ ∃ v, L[4]? = some (.int v) ∧ wL_law B ad K 728 L (.int v :: r) σ := xr_iload dL_law_726
theorem eL_law_728 : wL_law B ad K 728 L r σ ↔ wL_law B ad K 729 L (.int 1 :: r) σ := xr_iconst dL_law_728 (by decide)
theorem eL_law_729 {x y : Int32} : wL_law B ad K 729 L (.int y :: .int x :: r) σ ↔ wL_law B ad K 730 L (.int (x + y) :: r) σ := xr_iadd dL_law_729
theorem eL_law_730 {a : Nat} {x : Int32} : wL_law B ad K 730 L (.int x :: .ref a :: r) σ ↔ ∃ t V v, σ.1 a = some (t, V) ∧ (t = 100 ∨ t = 106) ∧ x_ix x V = some v ∧ wL_law B ad K 731 L (v :: r) σ := xr_iaload dL_law_730
theorem eL_law_731 {v0 v1 : Value} : wL_law B ad K 731 L (v1 :: v0 :: r) σ ↔ ((r.map fun v => v.category).sum ≤ 8 ∧ x_cl (x_v 7 (eX7_count B ad)) [v0, v1] σ (fun v g => wL_law B ad K 734 L (v.toList ++ r) g)) := xr_callV [v0, v1] r dL_law_731 rfl
theorem eL_law_734 : wL_law B ad K 734 L r σ ↔ ∃ v, L[2]? = some v ∧ x_rfv v ∧ wL_law B ad K 735 L (v :: r) σ := xr_aload_n dL_law_734
theorem eL_law_735 : wL_law B ad K 735 L r σ ↔ ∃ v, L[0]? = some v ∧ x_rfv v ∧ wL_law B ad K 736 L (v :: r) σ := xr_aload_n dL_law_735
theorem eL_law_736 : wL_law B ad K 736 L r σ ↔ ∃ v, L[4]? = some (.int v) ∧ wL_law B ad K 738 L (.int v :: r) σ := xr_iload dL_law_736
theorem eL_law_738 : wL_law B ad K 738 L r σ ↔ wL_law B ad K 739 L (.int 1 :: r) σ := xr_iconst dL_law_738 (by decide)
theorem eL_law_739 {x y : Int32} : wL_law B ad K 739 L (.int y :: .int x :: r) σ ↔ wL_law B ad K 740 L (.int (x + y) :: r) σ := xr_iadd dL_law_739
theorem eL_law_740 {a : Nat} {x : Int32} : wL_law B ad K 740 L (.int x :: .ref a :: r) σ ↔ ∃ t V v, σ.1 a = some (t, V) ∧ (t = 100 ∨ t = 106) ∧ x_ix x V = some v ∧ wL_law B ad K 741 L (v :: r) σ := xr_iaload dL_law_740
theorem eL_law_741 {v0 v1 : Value} : wL_law B ad K 741 L (v1 :: v0 :: r) σ ↔ ((r.map fun v => v.category).sum ≤ 8 ∧ x_cl (x_v 8 (eX8_count B ad)) [v0, v1] σ (fun v g => wL_law B ad K 744 L (v.toList ++ r) g)) := xr_callV [v0, v1] r dL_law_741 rfl
theorem eL_law_744 {x y : Int32} : wL_law B ad K 744 L (.int y :: .int x :: r) σ ↔ (if x = y then wL_law B ad K 762 L r σ else wL_law B ad K 747 L r σ) := (xr_icmp_eq dL_law_744 (by decide)).trans x_ite
theorem eL_law_747 : wL_law B ad K 747 L r σ ↔ wL_law B ad K 748 L (.int 0 :: r) σ := xr_iconst dL_law_747 (by decide)
theorem eL_law_748 {x : Int32} : wL_law B ad K 748 L [.int x] σ ↔ ((x = 0 ∨ x = 1) ∧ K (some (.int x)) σ) := xr_zreturn dL_law_748
theorem eL_law_749 : wL_law B ad K 749 L r σ ↔ ∃ v, L[1]? = some v ∧ x_rfv v ∧ wL_law B ad K 750 L (v :: r) σ := xr_aload_n dL_law_749
theorem eL_law_750 {v0 : Value} : wL_law B ad K 750 L (v0 :: r) σ ↔ ((r.map fun v => v.category).sum ≤ 8 ∧ x_cl (x_v 7 (eX7_check B ad)) [v0] σ (fun v g => wL_law B ad K 753 L (v.toList ++ r) g)) := xr_callV [v0] r dL_law_750 rfl
theorem eL_law_753 : wL_law B ad K 753 L r σ ↔ ∃ v, L[2]? = some v ∧ x_rfv v ∧ wL_law B ad K 754 L (v :: r) σ := xr_aload_n dL_law_753
theorem eL_law_754 {v0 : Value} : wL_law B ad K 754 L (v0 :: r) σ ↔ ((r.map fun v => v.category).sum ≤ 8 ∧ x_cl (x_v 8 (eX8_check B ad)) [v0] σ (fun v g => wL_law B ad K 757 L (v.toList ++ r) g)) := xr_callV [v0] r dL_law_754 rfl
theorem eL_law_757 {x y : Int32} : wL_law B ad K 757 L (.int y :: .int x :: r) σ ↔ (if x = y then wL_law B ad K 762 L r σ else wL_law B ad K 760 L r σ) := (xr_icmp_eq dL_law_757 (by decide)).trans x_ite
theorem eL_law_760 : wL_law B ad K 760 L r σ ↔ wL_law B ad K 761 L (.int 0 :: r) σ := xr_iconst dL_law_760 (by decide)
theorem eL_law_761 {x : Int32} : wL_law B ad K 761 L [.int x] σ ↔ ((x = 0 ∨ x = 1) ∧ K (some (.int x)) σ) := xr_zreturn dL_law_761
theorem eL_law_762 : wL_law B ad K 762 L r σ ↔ ∃ v, L[4]? = some (.int v) ∧ x_nl L 4 ∧ wL_law B ad K 765 (L.set 4 (.int (v + 5))) r σ := xr_iinc dL_law_762 (by decide)
theorem eL_law_765 : wL_law B ad K 765 L r σ ↔ wL_law B ad K 23 L r σ := xr_goto dL_law_765 (by decide)
theorem eL_law_768 : wL_law B ad K 768 L r σ ↔ wL_law B ad K 769 L (.int 1 :: r) σ := xr_iconst dL_law_768 (by decide)
theorem eL_law_769 {x : Int32} : wL_law B ad K 769 L [.int x] σ ↔ ((x = 0 ∨ x = 1) ∧ K (some (.int x)) σ) := xr_zreturn dL_law_769
end
theorem eL_law_39_0 {B : Nat} {ad : Nat → Nat} {K : xK} {L r : List Value} {σ : xW} : wL_law B ad K 39 L (.int 0 :: r) σ ↔ wL_law B ad K 120 L r σ := xr_tab_in (off := 81) dL_law_39 (by decide) (by decide) (by decide) (by decide)
theorem eL_law_39_1 {B : Nat} {ad : Nat → Nat} {K : xK} {L r : List Value} {σ : xW} : wL_law B ad K 39 L (.int 1 :: r) σ ↔ wL_law B ad K 169 L r σ := xr_tab_in (off := 130) dL_law_39 (by decide) (by decide) (by decide) (by decide)
theorem eL_law_39_2 {B : Nat} {ad : Nat → Nat} {K : xK} {L r : List Value} {σ : xW} : wL_law B ad K 39 L (.int 2 :: r) σ ↔ wL_law B ad K 230 L r σ := xr_tab_in (off := 191) dL_law_39 (by decide) (by decide) (by decide) (by decide)
theorem eL_law_39_3 {B : Nat} {ad : Nat → Nat} {K : xK} {L r : List Value} {σ : xW} : wL_law B ad K 39 L (.int 3 :: r) σ ↔ wL_law B ad K 267 L r σ := xr_tab_in (off := 228) dL_law_39 (by decide) (by decide) (by decide) (by decide)
theorem eL_law_39_4 {B : Nat} {ad : Nat → Nat} {K : xK} {L r : List Value} {σ : xW} : wL_law B ad K 39 L (.int 4 :: r) σ ↔ wL_law B ad K 328 L r σ := xr_tab_in (off := 289) dL_law_39 (by decide) (by decide) (by decide) (by decide)
theorem eL_law_39_5 {B : Nat} {ad : Nat → Nat} {K : xK} {L r : List Value} {σ : xW} : wL_law B ad K 39 L (.int 5 :: r) σ ↔ wL_law B ad K 353 L r σ := xr_tab_in (off := 314) dL_law_39 (by decide) (by decide) (by decide) (by decide)
theorem eL_law_39_6 {B : Nat} {ad : Nat → Nat} {K : xK} {L r : List Value} {σ : xW} : wL_law B ad K 39 L (.int 6 :: r) σ ↔ wL_law B ad K 378 L r σ := xr_tab_in (off := 339) dL_law_39 (by decide) (by decide) (by decide) (by decide)
theorem eL_law_39_7 {B : Nat} {ad : Nat → Nat} {K : xK} {L r : List Value} {σ : xW} : wL_law B ad K 39 L (.int 7 :: r) σ ↔ wL_law B ad K 443 L r σ := xr_tab_in (off := 404) dL_law_39 (by decide) (by decide) (by decide) (by decide)
theorem eL_law_39_8 {B : Nat} {ad : Nat → Nat} {K : xK} {L r : List Value} {σ : xW} : wL_law B ad K 39 L (.int 8 :: r) σ ↔ wL_law B ad K 468 L r σ := xr_tab_in (off := 429) dL_law_39 (by decide) (by decide) (by decide) (by decide)
theorem eL_law_39_9 {B : Nat} {ad : Nat → Nat} {K : xK} {L r : List Value} {σ : xW} : wL_law B ad K 39 L (.int 9 :: r) σ ↔ wL_law B ad K 481 L r σ := xr_tab_in (off := 442) dL_law_39 (by decide) (by decide) (by decide) (by decide)
theorem eL_law_39_10 {B : Nat} {ad : Nat → Nat} {K : xK} {L r : List Value} {σ : xW} : wL_law B ad K 39 L (.int 10 :: r) σ ↔ wL_law B ad K 518 L r σ := xr_tab_in (off := 479) dL_law_39 (by decide) (by decide) (by decide) (by decide)
theorem eL_law_39_11 {B : Nat} {ad : Nat → Nat} {K : xK} {L r : List Value} {σ : xW} : wL_law B ad K 39 L (.int 11 :: r) σ ↔ wL_law B ad K 555 L r σ := xr_tab_in (off := 516) dL_law_39 (by decide) (by decide) (by decide) (by decide)
theorem eL_law_39_12 {B : Nat} {ad : Nat → Nat} {K : xK} {L r : List Value} {σ : xW} : wL_law B ad K 39 L (.int 12 :: r) σ ↔ wL_law B ad K 593 L r σ := xr_tab_in (off := 554) dL_law_39 (by decide) (by decide) (by decide) (by decide)
theorem eL_law_39_13 {B : Nat} {ad : Nat → Nat} {K : xK} {L r : List Value} {σ : xW} : wL_law B ad K 39 L (.int 13 :: r) σ ↔ wL_law B ad K 661 L r σ := xr_tab_in (off := 622) dL_law_39 (by decide) (by decide) (by decide) (by decide)
theorem eL_law_39_14 {B : Nat} {ad : Nat → Nat} {K : xK} {L r : List Value} {σ : xW} : wL_law B ad K 39 L (.int 14 :: r) σ ↔ wL_law B ad K 687 L r σ := xr_tab_in (off := 648) dL_law_39 (by decide) (by decide) (by decide) (by decide)
theorem eL_law_39_15 {B : Nat} {ad : Nat → Nat} {K : xK} {L r : List Value} {σ : xW} : wL_law B ad K 39 L (.int 15 :: r) σ ↔ wL_law B ad K 724 L r σ := xr_tab_in (off := 685) dL_law_39 (by decide) (by decide) (by decide) (by decide)
theorem eL_law_39_16 {B : Nat} {ad : Nat → Nat} {K : xK} {L r : List Value} {σ : xW} : wL_law B ad K 39 L (.int 16 :: r) σ ↔ wL_law B ad K 749 L r σ := xr_tab_in (off := 710) dL_law_39 (by decide) (by decide) (by decide) (by decide)
theorem eL_law_39_o {B : Nat} {ad : Nat → Nat} {K : xK} {L r : List Value} {σ : xW} {x : Int32} (hc : x.toInt < 0 ∨ 16 < x.toInt) : wL_law B ad K 39 L (.int x :: r) σ ↔ wL_law B ad K 762 L r σ := xr_tab_out dL_law_39 (by decide) hc
