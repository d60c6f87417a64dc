/-! METHODS as relations, and their contracts -/
section XCT
variable {l : Launch} {D : va_G} {cA ad : Nat → Nat} {B : Nat}
def caX8_penalty (B : Nat) (ad : Nat → Nat) : List (Nat × Nat × Nat × xR) := [(105, 1, 3, eX8_in B ad), (133, 0, 6, x_v 8 (eX8_add B ad))]
def cxX8_penalty (B : Nat) (ad : Nat → Nat) : xC := (fun k => flX8.lookup k, fun k => csX8.lookup k, fun k => nwX8.lookup k, fun k => anX8.lookup k, fun k => (saX8.lookup k).map fun i => .ref (ad i), fun k => (caX8_penalty B ad).lookup k)
def eX8_penalty (B : Nat) (ad : Nat → Nat) : xR := x_ev B (some .int) (cxX8_penalty B ad) cX8_penalty 2
set_option maxRecDepth 20000 in
theorem mX8_penalty : x_Met l D cA ad B yX8_penalty cX8_penalty 2 (some .int) 1 25 (eX8_penalty B ad) := by
  show x_Met l D cA ad B yX8_penalty cX8_penalty 2 (some .int) 1 25 (x_ev B (some .int) (cxX8_penalty B ad) cX8_penalty 2)
  refine x_sound2 (own := RX8) (cx := cxX8_penalty B ad) (ini := false) rfl pnX8 (vcX8 rfl) (vsX8 rfl) (vfX8 rfl) (vnX8 rfl) (vaX8 rfl) ?_ (fun h => by cases h) _ _
  intro k kd n E hk
  have hm : (k, kd, n, E) ∈ caX8_penalty B ad := x_look hk
  simp only [caX8_penalty, List.mem_cons, List.not_mem_nil, or_false, Prod.mk.injEq] at hm
  rcases hm with ⟨rfl, rfl, rfl, rfl⟩ | ⟨rfl, rfl, rfl, rfl⟩
  · exact x_cwS mX8_in xw170 xw171 xw165 xw169 ⟨by decide +kernel, by decide +kernel, by decide +kernel⟩ ⟨by decide, by decide⟩
  · exact x_cwV (t := 8) mX8_add rfl (by decide) rfl xw173 xw174 xw175 xw165 xw172 ⟨by decide +kernel, by decide +kernel, by decide +kernel⟩ ⟨by decide, by decide⟩
def caX8_insert (B : Nat) (ad : Nat → Nat) : List (Nat × Nat × Nat × xR) := [(105, 1, 3, eX8_in B ad), (133, 0, 6, x_v 8 (eX8_add B ad))]
def cxX8_insert (B : Nat) (ad : Nat → Nat) : xC := (fun k => flX8.lookup k, fun k => csX8.lookup k, fun k => nwX8.lookup k, fun k => anX8.lookup k, fun k => (saX8.lookup k).map fun i => .ref (ad i), fun k => (caX8_insert B ad).lookup k)
def eX8_insert (B : Nat) (ad : Nat → Nat) : xR := x_ev B (some .int) (cxX8_insert B ad) cX8_insert 4
set_option maxRecDepth 20000 in
theorem mX8_insert : x_Met l D cA ad B yX8_insert cX8_insert 4 (some .int) 1 25 (eX8_insert B ad) := by
  show x_Met l D cA ad B yX8_insert cX8_insert 4 (some .int) 1 25 (x_ev B (some .int) (cxX8_insert B ad) cX8_insert 4)
  refine x_sound2 (own := RX8) (cx := cxX8_insert B ad) (ini := false) rfl pnX8 (vcX8 rfl) (vsX8 rfl) (vfX8 rfl) (vnX8 rfl) (vaX8 rfl) ?_ (fun h => by cases h) _ _
  intro k kd n E hk
  have hm : (k, kd, n, E) ∈ caX8_insert B ad := x_look hk
  simp only [caX8_insert, List.mem_cons, List.not_mem_nil, or_false, Prod.mk.injEq] at hm
  rcases hm with ⟨rfl, rfl, rfl, rfl⟩ | ⟨rfl, rfl, rfl, rfl⟩
  · exact x_cwS mX8_in xw170 xw171 xw165 xw169 ⟨by decide +kernel, by decide +kernel, by decide +kernel⟩ ⟨by decide, by decide⟩
  · exact x_cwV (t := 8) mX8_add rfl (by decide) rfl xw173 xw174 xw175 xw165 xw172 ⟨by decide +kernel, by decide +kernel, by decide +kernel⟩ ⟨by decide, by decide⟩
def caX8_mark (B : Nat) (ad : Nat → Nat) : List (Nat × Nat × Nat × xR) := [(133, 0, 6, x_v 8 (eX8_add B ad))]
def cxX8_mark (B : Nat) (ad : Nat → Nat) : xC := (fun k => flX8.lookup k, fun k => csX8.lookup k, fun k => nwX8.lookup k, fun k => anX8.lookup k, fun k => (saX8.lookup k).map fun i => .ref (ad i), fun k => (caX8_mark B ad).lookup k)
def eX8_mark (B : Nat) (ad : Nat → Nat) : xR := x_ev B (some .int) (cxX8_mark B ad) cX8_mark 2
set_option maxRecDepth 20000 in
theorem mX8_mark : x_Met l D cA ad B yX8_mark cX8_mark 2 (some .int) 1 25 (eX8_mark B ad) := by
  show x_Met l D cA ad B yX8_mark cX8_mark 2 (some .int) 1 25 (x_ev B (some .int) (cxX8_mark B ad) cX8_mark 2)
  refine x_sound2 (own := RX8) (cx := cxX8_mark B ad) (ini := false) rfl pnX8 (vcX8 rfl) (vsX8 rfl) (vfX8 rfl) (vnX8 rfl) (vaX8 rfl) ?_ (fun h => by cases h) _ _
  intro k kd n E hk
  have hm : (k, kd, n, E) ∈ caX8_mark B ad := x_look hk
  simp only [caX8_mark, List.mem_cons, List.not_mem_nil, or_false, Prod.mk.injEq] at hm
  rcases hm with ⟨rfl, rfl, rfl, rfl⟩
  · exact x_cwV (t := 8) mX8_add rfl (by decide) rfl xw173 xw174 xw175 xw165 xw172 ⟨by decide +kernel, by decide +kernel, by decide +kernel⟩ ⟨by decide, by decide⟩
def caX8_bad (B : Nat) (ad : Nat → Nat) : List (Nat × Nat × Nat × xR) := []
def cxX8_bad (B : Nat) (ad : Nat → Nat) : xC := (fun k => flX8.lookup k, fun k => csX8.lookup k, fun k => nwX8.lookup k, fun k => anX8.lookup k, fun k => (saX8.lookup k).map fun i => .ref (ad i), fun k => (caX8_bad B ad).lookup k)
def eX8_bad (B : Nat) (ad : Nat → Nat) : xR := x_ev B (some .long) (cxX8_bad B ad) cX8_bad 6
set_option maxRecDepth 20000 in
theorem mX8_bad : x_Met l D cA ad B yX8_bad cX8_bad 6 (some .long) 0 0 (eX8_bad B ad) := by
  show x_Met l D cA ad B yX8_bad cX8_bad 6 (some .long) 0 0 (x_ev B (some .long) (cxX8_bad B ad) cX8_bad 6)
  refine x_sound2 (own := RX8) (cx := cxX8_bad B ad) (ini := false) rfl pnX8 (vcX8 rfl) (vsX8 rfl) (vfX8 rfl) (vnX8 rfl) (vaX8 rfl) ?_ (fun h => by cases h) _ _
  intro k kd n E hk
  have hm : (k, kd, n, E) ∈ caX8_bad B ad := x_look hk
  simp only [caX8_bad, List.mem_cons, List.not_mem_nil, or_false, Prod.mk.injEq] at hm
def caX8_costAt (B : Nat) (ad : Nat → Nat) : List (Nat × Nat × Nat × xR) := [(174, 1, 2, eX8_bad B ad)]
def cxX8_costAt (B : Nat) (ad : Nat → Nat) : xC := (fun k => flX8.lookup k, fun k => csX8.lookup k, fun k => nwX8.lookup k, fun k => anX8.lookup k, fun k => (saX8.lookup k).map fun i => .ref (ad i), fun k => (caX8_costAt B ad).lookup k)
def eX8_costAt (B : Nat) (ad : Nat → Nat) : xR := x_ev B (some .long) (cxX8_costAt B ad) cX8_costAt 7
set_option maxRecDepth 20000 in
theorem mX8_costAt : x_Met l D cA ad B yX8_costAt cX8_costAt 7 (some .long) 1 25 (eX8_costAt B ad) := by
  show x_Met l D cA ad B yX8_costAt cX8_costAt 7 (some .long) 1 25 (x_ev B (some .long) (cxX8_costAt B ad) cX8_costAt 7)
  refine x_sound2 (own := RX8) (cx := cxX8_costAt B ad) (ini := false) rfl pnX8 (vcX8 rfl) (vsX8 rfl) (vfX8 rfl) (vnX8 rfl) (vaX8 rfl) ?_ (fun h => by cases h) _ _
  intro k kd n E hk
  have hm : (k, kd, n, E) ∈ caX8_costAt B ad := x_look hk
  simp only [caX8_costAt, List.mem_cons, List.not_mem_nil, or_false, Prod.mk.injEq] at hm
  rcases hm with ⟨rfl, rfl, rfl, rfl⟩
  · exact x_cwS mX8_bad xw177 xw178 xw165 xw176 ⟨by decide +kernel, by decide +kernel, by decide +kernel⟩ ⟨by decide, by decide⟩
def caX8_isPlace (B : Nat) (ad : Nat → Nat) : List (Nat × Nat × Nat × xR) := []
def cxX8_isPlace (B : Nat) (ad : Nat → Nat) : xC := (fun k => flX8.lookup k, fun k => csX8.lookup k, fun k => nwX8.lookup k, fun k => anX8.lookup k, fun k => (saX8.lookup k).map fun i => .ref (ad i), fun k => (caX8_isPlace B ad).lookup k)
def eX8_isPlace (B : Nat) (ad : Nat → Nat) : xR := x_ev B (some .boolean) (cxX8_isPlace B ad) cX8_isPlace 3
set_option maxRecDepth 20000 in
theorem mX8_isPlace : x_Met l D cA ad B yX8_isPlace cX8_isPlace 3 (some .boolean) 0 0 (eX8_isPlace B ad) := by
  show x_Met l D cA ad B yX8_isPlace cX8_isPlace 3 (some .boolean) 0 0 (x_ev B (some .boolean) (cxX8_isPlace B ad) cX8_isPlace 3)
  refine x_sound2 (own := RX8) (cx := cxX8_isPlace B ad) (ini := false) rfl pnX8 (vcX8 rfl) (vsX8 rfl) (vfX8 rfl) (vnX8 rfl) (vaX8 rfl) ?_ (fun h => by cases h) _ _
  intro k kd n E hk
  have hm : (k, kd, n, E) ∈ caX8_isPlace B ad := x_look hk
  simp only [caX8_isPlace, List.mem_cons, List.not_mem_nil, or_false, Prod.mk.injEq] at hm
def caX8_ends (B : Nat) (ad : Nat → Nat) : List (Nat × Nat × Nat × xR) := [(180, 0, 2, x_v 8 (eX8_costAt B ad))]
def cxX8_ends (B : Nat) (ad : Nat → Nat) : xC := (fun k => flX8.lookup k, fun k => csX8.lookup k, fun k => nwX8.lookup k, fun k => anX8.lookup k, fun k => (saX8.lookup k).map fun i => .ref (ad i), fun k => (caX8_ends B ad).lookup k)
def eX8_ends (B : Nat) (ad : Nat → Nat) : xR := x_ev B (some .boolean) (cxX8_ends B ad) cX8_ends 6
set_option maxRecDepth 20000 in
theorem mX8_ends : x_Met l D cA ad B yX8_ends cX8_ends 6 (some .boolean) 2 51 (eX8_ends B ad) := by
  show x_Met l D cA ad B yX8_ends cX8_ends 6 (some .boolean) 2 51 (x_ev B (some .boolean) (cxX8_ends B ad) cX8_ends 6)
  refine x_sound2 (own := RX8) (cx := cxX8_ends B ad) (ini := false) rfl pnX8 (vcX8 rfl) (vsX8 rfl) (vfX8 rfl) (vnX8 rfl) (vaX8 rfl) ?_ (fun h => by cases h) _ _
  intro k kd n E hk
  have hm : (k, kd, n, E) ∈ caX8_ends B ad := x_look hk
  simp only [caX8_ends, List.mem_cons, List.not_mem_nil, or_false, Prod.mk.injEq] at hm
  rcases hm with ⟨rfl, rfl, rfl, rfl⟩
  · exact x_cwV (t := 8) mX8_costAt rfl (by decide) rfl xw180 xw181 xw182 xw165 xw179 ⟨by decide +kernel, by decide +kernel, by decide +kernel⟩ ⟨by decide, by decide⟩
def caX8_takeFromLine (B : Nat) (ad : Nat → Nat) : List (Nat × Nat × Nat × xR) := []
def cxX8_takeFromLine (B : Nat) (ad : Nat → Nat) : xC := (fun k => flX8.lookup k, fun k => csX8.lookup k, fun k => nwX8.lookup k, fun k => anX8.lookup k, fun k => (saX8.lookup k).map fun i => .ref (ad i), fun k => (caX8_takeFromLine B ad).lookup k)
def eX8_takeFromLine (B : Nat) (ad : Nat → Nat) : xR := x_ev B none (cxX8_takeFromLine B ad) cX8_takeFromLine 2
set_option maxRecDepth 20000 in
theorem mX8_takeFromLine : x_Met l D cA ad B yX8_takeFromLine cX8_takeFromLine 2 none 0 0 (eX8_takeFromLine B ad) := by
  show x_Met l D cA ad B yX8_takeFromLine cX8_takeFromLine 2 none 0 0 (x_ev B none (cxX8_takeFromLine B ad) cX8_takeFromLine 2)
  refine x_sound2 (own := RX8) (cx := cxX8_takeFromLine B ad) (ini := false) rfl pnX8 (vcX8 rfl) (vsX8 rfl) (vfX8 rfl) (vnX8 rfl) (vaX8 rfl) ?_ (fun h => by cases h) _ _
  intro k kd n E hk
  have hm : (k, kd, n, E) ∈ caX8_takeFromLine B ad := x_look hk
  simp only [caX8_takeFromLine, List.mem_cons, List.not_mem_nil, or_false, Prod.mk.injEq] at hm
def caX8_less (B : Nat) (ad : Nat → Nat) : List (Nat × Nat × Nat × xR) := []
def cxX8_less (B : Nat) (ad : Nat → Nat) : xC := (fun k => flX8.lookup k, fun k => csX8.lookup k, fun k => nwX8.lookup k, fun k => anX8.lookup k, fun k => (saX8.lookup k).map fun i => .ref (ad i), fun k => (caX8_less B ad).lookup k)
def eX8_less (B : Nat) (ad : Nat → Nat) : xR := x_ev B (some .long) (cxX8_less B ad) cX8_less 4
set_option maxRecDepth 20000 in
theorem mX8_less : x_Met l D cA ad B yX8_less cX8_less 4 (some .long) 0 0 (eX8_less B ad) := by
  show x_Met l D cA ad B yX8_less cX8_less 4 (some .long) 0 0 (x_ev B (some .long) (cxX8_less B ad) cX8_less 4)
  refine x_sound2 (own := RX8) (cx := cxX8_less B ad) (ini := false) rfl pnX8 (vcX8 rfl) (vsX8 rfl) (vfX8 rfl) (vnX8 rfl) (vaX8 rfl) ?_ (fun h => by cases h) _ _
  intro k kd n E hk
  have hm : (k, kd, n, E) ∈ caX8_less B ad := x_look hk
  simp only [caX8_less, List.mem_cons, List.not_mem_nil, or_false, Prod.mk.injEq] at hm
def caX8_putInsert (B : Nat) (ad : Nat → Nat) : List (Nat × Nat × Nat × xR) := [(202, 1, 2, eX8_less B ad)]
def cxX8_putInsert (B : Nat) (ad : Nat → Nat) : xC := (fun k => flX8.lookup k, fun k => csX8.lookup k, fun k => nwX8.lookup k, fun k => anX8.lookup k, fun k => (saX8.lookup k).map fun i => .ref (ad i), fun k => (caX8_putInsert B ad).lookup k)
def eX8_putInsert (B : Nat) (ad : Nat → Nat) : xR := x_ev B none (cxX8_putInsert B ad) cX8_putInsert 14
set_option maxRecDepth 20000 in
theorem mX8_putInsert : x_Met l D cA ad B yX8_putInsert cX8_putInsert 14 none 1 23 (eX8_putInsert B ad) := by
  show x_Met l D cA ad B yX8_putInsert cX8_putInsert 14 none 1 23 (x_ev B none (cxX8_putInsert B ad) cX8_putInsert 14)
  refine x_sound2 (own := RX8) (cx := cxX8_putInsert B ad) (ini := false) rfl pnX8 (vcX8 rfl) (vsX8 rfl) (vfX8 rfl) (vnX8 rfl) (vaX8 rfl) ?_ (fun h => by cases h) _ _
  intro k kd n E hk
  have hm : (k, kd, n, E) ∈ caX8_putInsert B ad := x_look hk
  simp only [caX8_putInsert, List.mem_cons, List.not_mem_nil, or_false, Prod.mk.injEq] at hm
  rcases hm with ⟨rfl, rfl, rfl, rfl⟩
  · exact x_cwS mX8_less xw184 xw185 xw165 xw183 ⟨by decide +kernel, by decide +kernel, by decide +kernel⟩ ⟨by decide, by decide⟩
def caX8_put (B : Nat) (ad : Nat → Nat) : List (Nat × Nat × Nat × xR) := [(193, 0, 3, x_v 8 (eX8_putInsert B ad)), (197, 0, 1, x_v 8 (eX8_takeFromLine B ad))]
def cxX8_put (B : Nat) (ad : Nat → Nat) : xC := (fun k => flX8.lookup k, fun k => csX8.lookup k, fun k => nwX8.lookup k, fun k => anX8.lookup k, fun k => (saX8.lookup k).map fun i => .ref (ad i), fun k => (caX8_put B ad).lookup k)
def eX8_put (B : Nat) (ad : Nat → Nat) : xR := x_ev B none (cxX8_put B ad) cX8_put 2
set_option maxRecDepth 20000 in
theorem mX8_put : x_Met l D cA ad B yX8_put cX8_put 2 none 2 56 (eX8_put B ad) := by
  show x_Met l D cA ad B yX8_put cX8_put 2 none 2 56 (x_ev B none (cxX8_put B ad) cX8_put 2)
  refine x_sound2 (own := RX8) (cx := cxX8_put B ad) (ini := false) rfl pnX8 (vcX8 rfl) (vsX8 rfl) (vfX8 rfl) (vnX8 rfl) (vaX8 rfl) ?_ (fun h => by cases h) _ _
  intro k kd n E hk
  have hm : (k, kd, n, E) ∈ caX8_put B ad := x_look hk
  simp only [caX8_put, List.mem_cons, List.not_mem_nil, or_false, Prod.mk.injEq] at hm
  rcases hm with ⟨rfl, rfl, rfl, rfl⟩ | ⟨rfl, rfl, rfl, rfl⟩
  · exact x_cwV (t := 8) mX8_putInsert rfl (by decide) rfl xw187 xw188 xw189 xw165 xw186 ⟨by decide +kernel, by decide +kernel, by decide +kernel⟩ ⟨by decide, by decide⟩
  · exact x_cwV (t := 8) mX8_takeFromLine rfl (by decide) rfl xw191 xw192 xw193 xw165 xw190 ⟨by decide +kernel, by decide +kernel, by decide +kernel⟩ ⟨by decide, by decide⟩
def caX8_end (B : Nat) (ad : Nat → Nat) : List (Nat × Nat × Nat × xR) := [(97, 0, 1, x_v 8 (eX8_begin B ad))]
def cxX8_end (B : Nat) (ad : Nat → Nat) : xC := (fun k => flX8.lookup k, fun k => csX8.lookup k, fun k => nwX8.lookup k, fun k => anX8.lookup k, fun k => (saX8.lookup k).map fun i => .ref (ad i), fun k => (caX8_end B ad).lookup k)
def eX8_end (B : Nat) (ad : Nat → Nat) : xR := x_ev B none (cxX8_end B ad) cX8_end 6
set_option maxRecDepth 20000 in
theorem mX8_end : x_Met l D cA ad B yX8_end cX8_end 6 none 1 21 (eX8_end B ad) := by
  show x_Met l D cA ad B yX8_end cX8_end 6 none 1 21 (x_ev B none (cxX8_end B ad) cX8_end 6)
  refine x_sound2 (own := RX8) (cx := cxX8_end B ad) (ini := false) rfl pnX8 (vcX8 rfl) (vsX8 rfl) (vfX8 rfl) (vnX8 rfl) (vaX8 rfl) ?_ (fun h => by cases h) _ _
  intro k kd n E hk
  have hm : (k, kd, n, E) ∈ caX8_end B ad := x_look hk
  simp only [caX8_end, List.mem_cons, List.not_mem_nil, or_false, Prod.mk.injEq] at hm
  rcases hm with ⟨rfl, rfl, rfl, rfl⟩
  · exact x_cwV (t := 8) mX8_begin rfl (by decide) rfl xw166 xw167 xw168 xw165 xw164 ⟨by decide +kernel, by decide +kernel, by decide +kernel⟩ ⟨by decide, by decide⟩
def caX8_run (B : Nat) (ad : Nat → Nat) : List (Nat × Nat × Nat × xR) := [(197, 0, 1, x_v 8 (eX8_takeFromLine B ad)), (211, 0, 1, x_v 8 (eX8_isPlace B ad)), (215, 0, 1, x_v 8 (eX8_ends B ad)), (218, 0, 1, x_v 8 (eX8_end B ad)), (221, 0, 1, x_v 8 (eX8_put B ad))]
def cxX8_run (B : Nat) (ad : Nat → Nat) : xC := (fun k => flX8.lookup k, fun k => csX8.lookup k, fun k => nwX8.lookup k, fun k => anX8.lookup k, fun k => (saX8.lookup k).map fun i => .ref (ad i), fun k => (caX8_run B ad).lookup k)
def eX8_run (B : Nat) (ad : Nat → Nat) : xR := x_ev B (some .int) (cxX8_run B ad) cX8_run 4
set_option maxRecDepth 20000 in
theorem mX8_run : x_Met l D cA ad B yX8_run cX8_run 4 (some .int) 3 77 (eX8_run B ad) := by
  show x_Met l D cA ad B yX8_run cX8_run 4 (some .int) 3 77 (x_ev B (some .int) (cxX8_run B ad) cX8_run 4)
  refine x_sound2 (own := RX8) (cx := cxX8_run B ad) (ini := false) rfl pnX8 (vcX8 rfl) (vsX8 rfl) (vfX8 rfl) (vnX8 rfl) (vaX8 rfl) ?_ (fun h => by cases h) _ _
  intro k kd n E hk
  have hm : (k, kd, n, E) ∈ caX8_run B ad := x_look hk
  simp only [caX8_run, List.mem_cons, List.not_mem_nil, or_false, Prod.mk.injEq] at hm
  rcases hm with ⟨rfl, rfl, rfl, rfl⟩ | ⟨rfl, rfl, rfl, rfl⟩ | ⟨rfl, rfl, rfl, rfl⟩ | ⟨rfl, rfl, rfl, rfl⟩ | ⟨rfl, rfl, rfl, rfl⟩
  · exact x_cwV (t := 8) mX8_takeFromLine rfl (by decide) rfl xw191 xw192 xw193 xw165 xw190 ⟨by decide +kernel, by decide +kernel, by decide +kernel⟩ ⟨by decide, by decide⟩
  · exact x_cwV (t := 8) mX8_isPlace rfl (by decide) rfl xw195 xw196 xw197 xw165 xw194 ⟨by decide +kernel, by decide +kernel, by decide +kernel⟩ ⟨by decide, by decide⟩
  · exact x_cwV (t := 8) mX8_ends rfl (by decide) rfl xw199 xw200 xw201 xw165 xw198 ⟨by decide +kernel, by decide +kernel, by decide +kernel⟩ ⟨by decide, by decide⟩
  · exact x_cwV (t := 8) mX8_end rfl (by decide) rfl xw203 xw204 xw205 xw165 xw202 ⟨by decide +kernel, by decide +kernel, by decide +kernel⟩ ⟨by decide, by decide⟩
  · exact x_cwV (t := 8) mX8_put rfl (by decide) rfl xw207 xw208 xw209 xw165 xw206 ⟨by decide +kernel, by decide +kernel, by decide +kernel⟩ ⟨by decide, by decide⟩
def caX8_isPage (B : Nat) (ad : Nat → Nat) : List (Nat × Nat × Nat × xR) := []
def cxX8_isPage (B : Nat) (ad : Nat → Nat) : xC := (fun k => flX8.lookup k, fun k => csX8.lookup k, fun k => nwX8.lookup k, fun k => anX8.lookup k, fun k => (saX8.lookup k).map fun i => .ref (ad i), fun k => (caX8_isPage B ad).lookup k)
def eX8_isPage (B : Nat) (ad : Nat → Nat) : xR := x_ev B (some .boolean) (cxX8_isPage B ad) cX8_isPage 2
set_option maxRecDepth 20000 in
theorem mX8_isPage : x_Met l D cA ad B yX8_isPage cX8_isPage 2 (some .boolean) 0 0 (eX8_isPage B ad) := by
  show x_Met l D cA ad B yX8_isPage cX8_isPage 2 (some .boolean) 0 0 (x_ev B (some .boolean) (cxX8_isPage B ad) cX8_isPage 2)
  refine x_sound2 (own := RX8) (cx := cxX8_isPage B ad) (ini := false) rfl pnX8 (vcX8 rfl) (vsX8 rfl) (vfX8 rfl) (vnX8 rfl) (vaX8 rfl) ?_ (fun h => by cases h) _ _
  intro k kd n E hk
  have hm : (k, kd, n, E) ∈ caX8_isPage B ad := x_look hk
  simp only [caX8_isPage, List.mem_cons, List.not_mem_nil, or_false, Prod.mk.injEq] at hm
def caX8_sizeOf (B : Nat) (ad : Nat → Nat) : List (Nat × Nat × Nat × xR) := []
def cxX8_sizeOf (B : Nat) (ad : Nat → Nat) : xC := (fun k => flX8.lookup k, fun k => csX8.lookup k, fun k => nwX8.lookup k, fun k => anX8.lookup k, fun k => (saX8.lookup k).map fun i => .ref (ad i), fun k => (caX8_sizeOf B ad).lookup k)
def eX8_sizeOf (B : Nat) (ad : Nat → Nat) : xR := x_ev B (some .int) (cxX8_sizeOf B ad) cX8_sizeOf 2
set_option maxRecDepth 20000 in
theorem mX8_sizeOf : x_Met l D cA ad B yX8_sizeOf cX8_sizeOf 2 (some .int) 0 0 (eX8_sizeOf B ad) := by
  show x_Met l D cA ad B yX8_sizeOf cX8_sizeOf 2 (some .int) 0 0 (x_ev B (some .int) (cxX8_sizeOf B ad) cX8_sizeOf 2)
  refine x_sound2 (own := RX8) (cx := cxX8_sizeOf B ad) (ini := false) rfl pnX8 (vcX8 rfl) (vsX8 rfl) (vfX8 rfl) (vnX8 rfl) (vaX8 rfl) ?_ (fun h => by cases h) _ _
  intro k kd n E hk
  have hm : (k, kd, n, E) ∈ caX8_sizeOf B ad := x_look hk
  simp only [caX8_sizeOf, List.mem_cons, List.not_mem_nil, or_false, Prod.mk.injEq] at hm
def caX8_at (B : Nat) (ad : Nat → Nat) : List (Nat × Nat × Nat × xR) := [(224, 0, 2, x_v 8 (eX8_isPage B ad)), (228, 0, 2, x_v 8 (eX8_sizeOf B ad))]
def cxX8_at (B : Nat) (ad : Nat → Nat) : xC := (fun k => flX8.lookup k, fun k => csX8.lookup k, fun k => nwX8.lookup k, fun k => anX8.lookup k, fun k => (saX8.lookup k).map fun i => .ref (ad i), fun k => (caX8_at B ad).lookup k)
def eX8_at (B : Nat) (ad : Nat → Nat) : xR := x_ev B (some .int) (cxX8_at B ad) cX8_at 3
set_option maxRecDepth 20000 in
theorem mX8_at : x_Met l D cA ad B yX8_at cX8_at 3 (some .int) 1 21 (eX8_at B ad) := by
  show x_Met l D cA ad B yX8_at cX8_at 3 (some .int) 1 21 (x_ev B (some .int) (cxX8_at B ad) cX8_at 3)
  refine x_sound2 (own := RX8) (cx := cxX8_at B ad) (ini := false) rfl pnX8 (vcX8 rfl) (vsX8 rfl) (vfX8 rfl) (vnX8 rfl) (vaX8 rfl) ?_ (fun h => by cases h) _ _
  intro k kd n E hk
  have hm : (k, kd, n, E) ∈ caX8_at B ad := x_look hk
  simp only [caX8_at, List.mem_cons, List.not_mem_nil, or_false, Prod.mk.injEq] at hm
  rcases hm with ⟨rfl, rfl, rfl, rfl⟩ | ⟨rfl, rfl, rfl, rfl⟩
  · exact x_cwV (t := 8) mX8_isPage rfl (by decide) rfl xw211 xw212 xw213 xw165 xw210 ⟨by decide +kernel, by decide +kernel, by decide +kernel⟩ ⟨by decide, by decide⟩
  · exact x_cwV (t := 8) mX8_sizeOf rfl (by decide) rfl xw215 xw216 xw217 xw165 xw214 ⟨by decide +kernel, by decide +kernel, by decide +kernel⟩ ⟨by decide, by decide⟩
def caX8_part (B : Nat) (ad : Nat → Nat) : List (Nat × Nat × Nat × xR) := [(224, 0, 2, x_v 8 (eX8_isPage B ad)), (228, 0, 2, x_v 8 (eX8_sizeOf B ad))]
def cxX8_part (B : Nat) (ad : Nat → Nat) : xC := (fun k => flX8.lookup k, fun k => csX8.lookup k, fun k => nwX8.lookup k, fun k => anX8.lookup k, fun k => (saX8.lookup k).map fun i => .ref (ad i), fun k => (caX8_part B ad).lookup k)
def eX8_part (B : Nat) (ad : Nat → Nat) : xR := x_ev B (some .int) (cxX8_part B ad) cX8_part 3
set_option maxRecDepth 20000 in
theorem mX8_part : x_Met l D cA ad B yX8_part cX8_part 3 (some .int) 1 21 (eX8_part B ad) := by
  show x_Met l D cA ad B yX8_part cX8_part 3 (some .int) 1 21 (x_ev B (some .int) (cxX8_part B ad) cX8_part 3)
  refine x_sound2 (own := RX8) (cx := cxX8_part B ad) (ini := false) rfl pnX8 (vcX8 rfl) (vsX8 rfl) (vfX8 rfl) (vnX8 rfl) (vaX8 rfl) ?_ (fun h => by cases h) _ _
  intro k kd n E hk
  have hm : (k, kd, n, E) ∈ caX8_part B ad := x_look hk
  simp only [caX8_part, List.mem_cons, List.not_mem_nil, or_false, Prod.mk.injEq] at hm
  rcases hm with ⟨rfl, rfl, rfl, rfl⟩ | ⟨rfl, rfl, rfl, rfl⟩
  · exact x_cwV (t := 8) mX8_isPage rfl (by decide) rfl xw211 xw212 xw213 xw165 xw210 ⟨by decide +kernel, by decide +kernel, by decide +kernel⟩ ⟨by decide, by decide⟩
  · exact x_cwV (t := 8) mX8_sizeOf rfl (by decide) rfl xw215 xw216 xw217 xw165 xw214 ⟨by decide +kernel, by decide +kernel, by decide +kernel⟩ ⟨by decide, by decide⟩
def caX8_told (B : Nat) (ad : Nat → Nat) : List (Nat × Nat × Nat × xR) := [(224, 0, 2, x_v 8 (eX8_isPage B ad)), (228, 0, 2, x_v 8 (eX8_sizeOf B ad))]
def cxX8_told (B : Nat) (ad : Nat → Nat) : xC := (fun k => flX8.lookup k, fun k => csX8.lookup k, fun k => nwX8.lookup k, fun k => anX8.lookup k, fun k => (saX8.lookup k).map fun i => .ref (ad i), fun k => (caX8_told B ad).lookup k)
def eX8_told (B : Nat) (ad : Nat → Nat) : xR := x_ev B (some .long) (cxX8_told B ad) cX8_told 3
set_option maxRecDepth 20000 in
theorem mX8_told : x_Met l D cA ad B yX8_told cX8_told 3 (some .long) 1 21 (eX8_told B ad) := by
  show x_Met l D cA ad B yX8_told cX8_told 3 (some .long) 1 21 (x_ev B (some .long) (cxX8_told B ad) cX8_told 3)
  refine x_sound2 (own := RX8) (cx := cxX8_told B ad) (ini := false) rfl pnX8 (vcX8 rfl) (vsX8 rfl) (vfX8 rfl) (vnX8 rfl) (vaX8 rfl) ?_ (fun h => by cases h) _ _
  intro k kd n E hk
  have hm : (k, kd, n, E) ∈ caX8_told B ad := x_look hk
  simp only [caX8_told, List.mem_cons, List.not_mem_nil, or_false, Prod.mk.injEq] at hm
  rcases hm with ⟨rfl, rfl, rfl, rfl⟩ | ⟨rfl, rfl, rfl, rfl⟩
  · exact x_cwV (t := 8) mX8_isPage rfl (by decide) rfl xw211 xw212 xw213 xw165 xw210 ⟨by decide +kernel, by decide +kernel, by decide +kernel⟩ ⟨by decide, by decide⟩
  · exact x_cwV (t := 8) mX8_sizeOf rfl (by decide) rfl xw215 xw216 xw217 xw165 xw214 ⟨by decide +kernel, by decide +kernel, by decide +kernel⟩ ⟨by decide, by decide⟩
def caX8_marked (B : Nat) (ad : Nat → Nat) : List (Nat × Nat × Nat × xR) := [(224, 0, 2, x_v 8 (eX8_isPage B ad))]
def cxX8_marked (B : Nat) (ad : Nat → Nat) : xC := (fun k => flX8.lookup k, fun k => csX8.lookup k, fun k => nwX8.lookup k, fun k => anX8.lookup k, fun k => (saX8.lookup k).map fun i => .ref (ad i), fun k => (caX8_marked B ad).lookup k)
def eX8_marked (B : Nat) (ad : Nat → Nat) : xR := x_ev B (some .int) (cxX8_marked B ad) cX8_marked 3
set_option maxRecDepth 20000 in
theorem mX8_marked : x_Met l D cA ad B yX8_marked cX8_marked 3 (some .int) 1 21 (eX8_marked B ad) := by
  show x_Met l D cA ad B yX8_marked cX8_marked 3 (some .int) 1 21 (x_ev B (some .int) (cxX8_marked B ad) cX8_marked 3)
  refine x_sound2 (own := RX8) (cx := cxX8_marked B ad) (ini := false) rfl pnX8 (vcX8 rfl) (vsX8 rfl) (vfX8 rfl) (vnX8 rfl) (vaX8 rfl) ?_ (fun h => by cases h) _ _
  intro k kd n E hk
  have hm : (k, kd, n, E) ∈ caX8_marked B ad := x_look hk
  simp only [caX8_marked, List.mem_cons, List.not_mem_nil, or_false, Prod.mk.injEq] at hm
  rcases hm with ⟨rfl, rfl, rfl, rfl⟩
  · exact x_cwV (t := 8) mX8_isPage rfl (by decide) rfl xw211 xw212 xw213 xw165 xw210 ⟨by decide +kernel, by decide +kernel, by decide +kernel⟩ ⟨by decide, by decide⟩
def caX8_now (B : Nat) (ad : Nat → Nat) : List (Nat × Nat × Nat × xR) := []
def cxX8_now (B : Nat) (ad : Nat → Nat) : xC := (fun k => flX8.lookup k, fun k => csX8.lookup k, fun k => nwX8.lookup k, fun k => anX8.lookup k, fun k => (saX8.lookup k).map fun i => .ref (ad i), fun k => (caX8_now B ad).lookup k)
def eX8_now (B : Nat) (ad : Nat → Nat) : xR := x_ev B (some .long) (cxX8_now B ad) cX8_now 3
set_option maxRecDepth 20000 in
theorem mX8_now : x_Met l D cA ad B yX8_now cX8_now 3 (some .long) 0 0 (eX8_now B ad) := by
  show x_Met l D cA ad B yX8_now cX8_now 3 (some .long) 0 0 (x_ev B (some .long) (cxX8_now B ad) cX8_now 3)
  refine x_sound2 (own := RX8) (cx := cxX8_now B ad) (ini := false) rfl pnX8 (vcX8 rfl) (vsX8 rfl) (vfX8 rfl) (vnX8 rfl) (vaX8 rfl) ?_ (fun h => by cases h) _ _
  intro k kd n E hk
  have hm : (k, kd, n, E) ∈ caX8_now B ad := x_look hk
  simp only [caX8_now, List.mem_cons, List.not_mem_nil, or_false, Prod.mk.injEq] at hm
def caX8_badness (B : Nat) (ad : Nat → Nat) : List (Nat × Nat × Nat × xR) := [(174, 1, 2, eX8_bad B ad)]
def cxX8_badness (B : Nat) (ad : Nat → Nat) : xC := (fun k => flX8.lookup k, fun k => csX8.lookup k, fun k => nwX8.lookup k, fun k => anX8.lookup k, fun k => (saX8.lookup k).map fun i => .ref (ad i), fun k => (caX8_badness B ad).lookup k)
def eX8_badness (B : Nat) (ad : Nat → Nat) : xR := x_ev B (some .int) (cxX8_badness B ad) cX8_badness 3
set_option maxRecDepth 20000 in
theorem mX8_badness : x_Met l D cA ad B yX8_badness cX8_badness 3 (some .int) 1 25 (eX8_badness B ad) := by
  show x_Met l D cA ad B yX8_badness cX8_badness 3 (some .int) 1 25 (x_ev B (some .int) (cxX8_badness B ad) cX8_badness 3)
  refine x_sound2 (own := RX8) (cx := cxX8_badness B ad) (ini := false) rfl pnX8 (vcX8 rfl) (vsX8 rfl) (vfX8 rfl) (vnX8 rfl) (vaX8 rfl) ?_ (fun h => by cases h) _ _
  intro k kd n E hk
  have hm : (k, kd, n, E) ∈ caX8_badness B ad := x_look hk
  simp only [caX8_badness, List.mem_cons, List.not_mem_nil, or_false, Prod.mk.injEq] at hm
  rcases hm with ⟨rfl, rfl, rfl, rfl⟩
  · exact x_cwS mX8_bad xw177 xw178 xw165 xw176 ⟨by decide +kernel, by decide +kernel, by decide +kernel⟩ ⟨by decide, by decide⟩
def caX8_count (B : Nat) (ad : Nat → Nat) : List (Nat × Nat × Nat × xR) := []
def cxX8_count (B : Nat) (ad : Nat → Nat) : xC := (fun k => flX8.lookup k, fun k => csX8.lookup k, fun k => nwX8.lookup k, fun k => anX8.lookup k, fun k => (saX8.lookup k).map fun i => .ref (ad i), fun k => (caX8_count B ad).lookup k)
def eX8_count (B : Nat) (ad : Nat → Nat) : xR := x_ev B (some .int) (cxX8_count B ad) cX8_count 2
set_option maxRecDepth 20000 in
theorem mX8_count : x_Met l D cA ad B yX8_count cX8_count 2 (some .int) 0 0 (eX8_count B ad) := by
  show x_Met l D cA ad B yX8_count cX8_count 2 (some .int) 0 0 (x_ev B (some .int) (cxX8_count B ad) cX8_count 2)
  refine x_sound2 (own := RX8) (cx := cxX8_count B ad) (ini := false) rfl pnX8 (vcX8 rfl) (vsX8 rfl) (vfX8 rfl) (vnX8 rfl) (vaX8 rfl) ?_ (fun h => by cases h) _ _
  intro k kd n E hk
  have hm : (k, kd, n, E) ∈ caX8_count B ad := x_look hk
  simp only [caX8_count, List.mem_cons, List.not_mem_nil, or_false, Prod.mk.injEq] at hm
end XCT
