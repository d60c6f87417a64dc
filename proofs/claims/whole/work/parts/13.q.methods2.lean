/-! METHODS as relations, and their contracts -/
section XCT
variable {l : Launch} {D : va_G} {cA ad : Nat → Nat} {B : Nat}
def caX7_endPage (B : Nat) (ad : Nat → Nat) : List (Nat × Nat × Nat × xR) := [(133, 0, 2, x_v 7 (eX7_endedPage B ad)), (257, 2, 3, x_n1 (eX6_init B ad)), (260, 0, 1, x_v 7 (eX7_putBackFromBreak B ad)), (263, 0, 1, x_v 7 (eX7_putBackInserts B ad)), (51, 0, 4, x_v 1 (eX0_begin B ad))]
def cxX7_endPage (B : Nat) (ad : Nat → Nat) : xC := (fun k => flX7.lookup k, fun k => csX7.lookup k, fun k => nwX7.lookup k, fun k => anX7.lookup k, fun k => (saX7.lookup k).map fun i => .ref (ad i), fun k => (caX7_endPage B ad).lookup k)
def eX7_endPage (B : Nat) (ad : Nat → Nat) : xR := x_ev B none (cxX7_endPage B ad) cX7_endPage 2
set_option maxRecDepth 20000 in
theorem mX7_endPage : x_Met l D cA ad B yX7_endPage cX7_endPage 2 none 4 84 (eX7_endPage B ad) := by
  show x_Met l D cA ad B yX7_endPage cX7_endPage 2 none 4 84 (x_ev B none (cxX7_endPage B ad) cX7_endPage 2)
  refine x_sound2 (own := RX7) (cx := cxX7_endPage B ad) (ini := false) rfl pnX7 (vcX7 rfl) (vsX7 rfl) (vfX7 rfl) (vnX7 rfl) (vaX7 rfl) ?_ (fun h => by cases h) _ _
  intro k kd n E hk
  have hm : (k, kd, n, E) ∈ caX7_endPage B ad := x_look hk
  simp only [caX7_endPage, List.mem_cons, List.not_mem_nil, or_false, Prod.mk.injEq] at hm
  rcases hm with ⟨rfl, rfl, rfl, rfl⟩ | ⟨rfl, rfl, rfl, rfl⟩ | ⟨rfl, rfl, rfl, rfl⟩ | ⟨rfl, rfl, rfl, rfl⟩ | ⟨rfl, rfl, rfl, rfl⟩
  · exact x_cwV (t := 7) mX7_endedPage rfl (by decide) rfl xw103 xw104 xw105 xw12 xw102 ⟨by decide +kernel, by decide +kernel, by decide +kernel⟩ ⟨by decide, by decide⟩
  · exact x_cwI mX6_init rfl xw108 xw109 xw107 xw106 ⟨by decide +kernel, by decide +kernel, by decide +kernel⟩ ⟨by decide, by decide⟩
  · exact x_cwV (t := 7) mX7_putBackFromBreak rfl (by decide) rfl xw111 xw112 xw113 xw12 xw110 ⟨by decide +kernel, by decide +kernel, by decide +kernel⟩ ⟨by decide, by decide⟩
  · exact x_cwV (t := 7) mX7_putBackInserts rfl (by decide) rfl xw115 xw116 xw117 xw12 xw114 ⟨by decide +kernel, by decide +kernel, by decide +kernel⟩ ⟨by decide, by decide⟩
  · exact x_cwV (t := 1) mX0_begin rfl (by decide) rfl xw68 xw69 xw70 xw19 xw67 ⟨by decide +kernel, by decide +kernel, by decide +kernel⟩ ⟨by decide, by decide⟩
def caX7_takeStep (B : Nat) (ad : Nat → Nat) : List (Nat × Nat × Nat × xR) := [(183, 0, 2, x_v 4 (eX4_look B ad)), (230, 0, 1, x_v 7 (eX7_dropFirst B ad)), (233, 0, 3, x_v 1 (eX0_mayBreakBefore B ad)), (237, 0, 1, x_v 3 (eX2_price B ad)), (240, 0, 2, x_v 1 (eX0_endsAt B ad)), (244, 0, 1, x_v 7 (eX7_endPage B ad)), (247, 0, 1, x_v 4 (eX4_takeFirst B ad)), (251, 0, 2, x_v 1 (eX0_put B ad))]
def cxX7_takeStep (B : Nat) (ad : Nat → Nat) : xC := (fun k => flX7.lookup k, fun k => csX7.lookup k, fun k => nwX7.lookup k, fun k => anX7.lookup k, fun k => (saX7.lookup k).map fun i => .ref (ad i), fun k => (caX7_takeStep B ad).lookup k)
def eX7_takeStep (B : Nat) (ad : Nat → Nat) : xR := x_ev B (some .boolean) (cxX7_takeStep B ad) cX7_takeStep 3
set_option maxRecDepth 20000 in
theorem mX7_takeStep : x_Met l D cA ad B yX7_takeStep cX7_takeStep 3 (some .boolean) 5 105 (eX7_takeStep B ad) := by
  show x_Met l D cA ad B yX7_takeStep cX7_takeStep 3 (some .boolean) 5 105 (x_ev B (some .boolean) (cxX7_takeStep B ad) cX7_takeStep 3)
  refine x_sound2 (own := RX7) (cx := cxX7_takeStep B ad) (ini := false) rfl pnX7 (vcX7 rfl) (vsX7 rfl) (vfX7 rfl) (vnX7 rfl) (vaX7 rfl) ?_ (fun h => by cases h) _ _
  intro k kd n E hk
  have hm : (k, kd, n, E) ∈ caX7_takeStep B ad := x_look hk
  simp only [caX7_takeStep, List.mem_cons, List.not_mem_nil, or_false, Prod.mk.injEq] at hm
  rcases hm with ⟨rfl, rfl, rfl, rfl⟩ | ⟨rfl, rfl, rfl, rfl⟩ | ⟨rfl, rfl, rfl, rfl⟩ | ⟨rfl, rfl, rfl, rfl⟩ | ⟨rfl, rfl, rfl, rfl⟩ | ⟨rfl, rfl, rfl, rfl⟩ | ⟨rfl, rfl, rfl, rfl⟩ | ⟨rfl, rfl, rfl, rfl⟩
  · exact x_cwV (t := 4) mX4_look rfl (by decide) rfl xw97 xw58 xw59 xw56 xw55 ⟨by decide +kernel, by decide +kernel, by decide +kernel⟩ ⟨by decide, by decide⟩
  · exact x_cwV (t := 7) mX7_dropFirst rfl (by decide) rfl xw99 xw100 xw101 xw12 xw98 ⟨by decide +kernel, by decide +kernel, by decide +kernel⟩ ⟨by decide, by decide⟩
  · exact x_cwV (t := 1) mX0_mayBreakBefore rfl (by decide) rfl xw119 xw120 xw121 xw19 xw118 ⟨by decide +kernel, by decide +kernel, by decide +kernel⟩ ⟨by decide, by decide⟩
  · exact x_cwV (t := 3) mX2_price rfl (by decide) rfl xw123 xw124 xw125 xw82 xw122 ⟨by decide +kernel, by decide +kernel, by decide +kernel⟩ ⟨by decide, by decide⟩
  · exact x_cwV (t := 1) mX0_endsAt rfl (by decide) rfl xw127 xw128 xw129 xw19 xw126 ⟨by decide +kernel, by decide +kernel, by decide +kernel⟩ ⟨by decide, by decide⟩
  · exact x_cwV (t := 7) mX7_endPage rfl (by decide) rfl xw131 xw132 xw133 xw12 xw130 ⟨by decide +kernel, by decide +kernel, by decide +kernel⟩ ⟨by decide, by decide⟩
  · exact x_cwV (t := 4) mX4_takeFirst rfl (by decide) rfl xw90 xw91 xw92 xw56 xw89 ⟨by decide +kernel, by decide +kernel, by decide +kernel⟩ ⟨by decide, by decide⟩
  · exact x_cwV (t := 1) mX0_put rfl (by decide) rfl xw135 xw136 xw137 xw19 xw134 ⟨by decide +kernel, by decide +kernel, by decide +kernel⟩ ⟨by decide, by decide⟩
def caX7_run (B : Nat) (ad : Nat → Nat) : List (Nat × Nat × Nat × xR) := [(129, 0, 1, x_v 7 (eX7_takeStep B ad))]
def cxX7_run (B : Nat) (ad : Nat → Nat) : xC := (fun k => flX7.lookup k, fun k => csX7.lookup k, fun k => nwX7.lookup k, fun k => anX7.lookup k, fun k => (saX7.lookup k).map fun i => .ref (ad i), fun k => (caX7_run B ad).lookup k)
def eX7_run (B : Nat) (ad : Nat → Nat) : xR := x_ev B (some .int) (cxX7_run B ad) cX7_run 4
set_option maxRecDepth 20000 in
theorem mX7_run : x_Met l D cA ad B yX7_run cX7_run 4 (some .int) 6 127 (eX7_run B ad) := by
  show x_Met l D cA ad B yX7_run cX7_run 4 (some .int) 6 127 (x_ev B (some .int) (cxX7_run B ad) cX7_run 4)
  refine x_sound2 (own := RX7) (cx := cxX7_run B ad) (ini := false) rfl pnX7 (vcX7 rfl) (vsX7 rfl) (vfX7 rfl) (vnX7 rfl) (vaX7 rfl) ?_ (fun h => by cases h) _ _
  intro k kd n E hk
  have hm : (k, kd, n, E) ∈ caX7_run B ad := x_look hk
  simp only [caX7_run, List.mem_cons, List.not_mem_nil, or_false, Prod.mk.injEq] at hm
  rcases hm with ⟨rfl, rfl, rfl, rfl⟩
  · exact x_cwV (t := 7) mX7_takeStep rfl (by decide) rfl xw139 xw140 xw141 xw12 xw138 ⟨by decide +kernel, by decide +kernel, by decide +kernel⟩ ⟨by decide, by decide⟩
def caX7_at (B : Nat) (ad : Nat → Nat) : List (Nat × Nat × Nat × xR) := [(133, 0, 2, x_v 7 (eX7_endedPage B ad)), (56, 1, 3, eX7_within B ad)]
def cxX7_at (B : Nat) (ad : Nat → Nat) : xC := (fun k => flX7.lookup k, fun k => csX7.lookup k, fun k => nwX7.lookup k, fun k => anX7.lookup k, fun k => (saX7.lookup k).map fun i => .ref (ad i), fun k => (caX7_at B ad).lookup k)
def eX7_at (B : Nat) (ad : Nat → Nat) : xR := x_ev B (some .int) (cxX7_at B ad) cX7_at 4
set_option maxRecDepth 20000 in
theorem mX7_at : x_Met l D cA ad B yX7_at cX7_at 4 (some .int) 2 43 (eX7_at B ad) := by
  show x_Met l D cA ad B yX7_at cX7_at 4 (some .int) 2 43 (x_ev B (some .int) (cxX7_at B ad) cX7_at 4)
  refine x_sound2 (own := RX7) (cx := cxX7_at B ad) (ini := false) rfl pnX7 (vcX7 rfl) (vsX7 rfl) (vfX7 rfl) (vnX7 rfl) (vaX7 rfl) ?_ (fun h => by cases h) _ _
  intro k kd n E hk
  have hm : (k, kd, n, E) ∈ caX7_at B ad := x_look hk
  simp only [caX7_at, List.mem_cons, List.not_mem_nil, or_false, Prod.mk.injEq] at hm
  rcases hm with ⟨rfl, rfl, rfl, rfl⟩ | ⟨rfl, rfl, rfl, rfl⟩
  · exact x_cwV (t := 7) mX7_endedPage rfl (by decide) rfl xw103 xw104 xw105 xw12 xw102 ⟨by decide +kernel, by decide +kernel, by decide +kernel⟩ ⟨by decide, by decide⟩
  · exact x_cwS mX7_within xw72 xw73 xw12 xw71 ⟨by decide +kernel, by decide +kernel, by decide +kernel⟩ ⟨by decide, by decide⟩
def caX7_part (B : Nat) (ad : Nat → Nat) : List (Nat × Nat × Nat × xR) := [(133, 0, 2, x_v 7 (eX7_endedPage B ad)), (56, 1, 3, eX7_within B ad)]
def cxX7_part (B : Nat) (ad : Nat → Nat) : xC := (fun k => flX7.lookup k, fun k => csX7.lookup k, fun k => nwX7.lookup k, fun k => anX7.lookup k, fun k => (saX7.lookup k).map fun i => .ref (ad i), fun k => (caX7_part B ad).lookup k)
def eX7_part (B : Nat) (ad : Nat → Nat) : xR := x_ev B (some .int) (cxX7_part B ad) cX7_part 4
set_option maxRecDepth 20000 in
theorem mX7_part : x_Met l D cA ad B yX7_part cX7_part 4 (some .int) 2 43 (eX7_part B ad) := by
  show x_Met l D cA ad B yX7_part cX7_part 4 (some .int) 2 43 (x_ev B (some .int) (cxX7_part B ad) cX7_part 4)
  refine x_sound2 (own := RX7) (cx := cxX7_part B ad) (ini := false) rfl pnX7 (vcX7 rfl) (vsX7 rfl) (vfX7 rfl) (vnX7 rfl) (vaX7 rfl) ?_ (fun h => by cases h) _ _
  intro k kd n E hk
  have hm : (k, kd, n, E) ∈ caX7_part B ad := x_look hk
  simp only [caX7_part, List.mem_cons, List.not_mem_nil, or_false, Prod.mk.injEq] at hm
  rcases hm with ⟨rfl, rfl, rfl, rfl⟩ | ⟨rfl, rfl, rfl, rfl⟩
  · exact x_cwV (t := 7) mX7_endedPage rfl (by decide) rfl xw103 xw104 xw105 xw12 xw102 ⟨by decide +kernel, by decide +kernel, by decide +kernel⟩ ⟨by decide, by decide⟩
  · exact x_cwS mX7_within xw72 xw73 xw12 xw71 ⟨by decide +kernel, by decide +kernel, by decide +kernel⟩ ⟨by decide, by decide⟩
def caX7_told (B : Nat) (ad : Nat → Nat) : List (Nat × Nat × Nat × xR) := [(133, 0, 2, x_v 7 (eX7_endedPage B ad)), (163, 0, 2, x_v 5 (eX5_entry B ad))]
def cxX7_told (B : Nat) (ad : Nat → Nat) : xC := (fun k => flX7.lookup k, fun k => csX7.lookup k, fun k => nwX7.lookup k, fun k => anX7.lookup k, fun k => (saX7.lookup k).map fun i => .ref (ad i), fun k => (caX7_told B ad).lookup k)
def eX7_told (B : Nat) (ad : Nat → Nat) : xR := x_ev B (some .long) (cxX7_told B ad) cX7_told 4
set_option maxRecDepth 20000 in
theorem mX7_told : x_Met l D cA ad B yX7_told cX7_told 4 (some .long) 2 43 (eX7_told B ad) := by
  show x_Met l D cA ad B yX7_told cX7_told 4 (some .long) 2 43 (x_ev B (some .long) (cxX7_told B ad) cX7_told 4)
  refine x_sound2 (own := RX7) (cx := cxX7_told B ad) (ini := false) rfl pnX7 (vcX7 rfl) (vsX7 rfl) (vfX7 rfl) (vnX7 rfl) (vaX7 rfl) ?_ (fun h => by cases h) _ _
  intro k kd n E hk
  have hm : (k, kd, n, E) ∈ caX7_told B ad := x_look hk
  simp only [caX7_told, List.mem_cons, List.not_mem_nil, or_false, Prod.mk.injEq] at hm
  rcases hm with ⟨rfl, rfl, rfl, rfl⟩ | ⟨rfl, rfl, rfl, rfl⟩
  · exact x_cwV (t := 7) mX7_endedPage rfl (by decide) rfl xw103 xw104 xw105 xw12 xw102 ⟨by decide +kernel, by decide +kernel, by decide +kernel⟩ ⟨by decide, by decide⟩
  · exact x_cwV (t := 5) mX5_entry rfl (by decide) rfl xw143 xw144 xw145 xw5 xw142 ⟨by decide +kernel, by decide +kernel, by decide +kernel⟩ ⟨by decide, by decide⟩
def caX7_marked (B : Nat) (ad : Nat → Nat) : List (Nat × Nat × Nat × xR) := [(133, 0, 2, x_v 7 (eX7_endedPage B ad)), (56, 1, 3, eX7_within B ad)]
def cxX7_marked (B : Nat) (ad : Nat → Nat) : xC := (fun k => flX7.lookup k, fun k => csX7.lookup k, fun k => nwX7.lookup k, fun k => anX7.lookup k, fun k => (saX7.lookup k).map fun i => .ref (ad i), fun k => (caX7_marked B ad).lookup k)
def eX7_marked (B : Nat) (ad : Nat → Nat) : xR := x_ev B (some .int) (cxX7_marked B ad) cX7_marked 4
set_option maxRecDepth 20000 in
theorem mX7_marked : x_Met l D cA ad B yX7_marked cX7_marked 4 (some .int) 2 43 (eX7_marked B ad) := by
  show x_Met l D cA ad B yX7_marked cX7_marked 4 (some .int) 2 43 (x_ev B (some .int) (cxX7_marked B ad) cX7_marked 4)
  refine x_sound2 (own := RX7) (cx := cxX7_marked B ad) (ini := false) rfl pnX7 (vcX7 rfl) (vsX7 rfl) (vfX7 rfl) (vnX7 rfl) (vaX7 rfl) ?_ (fun h => by cases h) _ _
  intro k kd n E hk
  have hm : (k, kd, n, E) ∈ caX7_marked B ad := x_look hk
  simp only [caX7_marked, List.mem_cons, List.not_mem_nil, or_false, Prod.mk.injEq] at hm
  rcases hm with ⟨rfl, rfl, rfl, rfl⟩ | ⟨rfl, rfl, rfl, rfl⟩
  · exact x_cwV (t := 7) mX7_endedPage rfl (by decide) rfl xw103 xw104 xw105 xw12 xw102 ⟨by decide +kernel, by decide +kernel, by decide +kernel⟩ ⟨by decide, by decide⟩
  · exact x_cwS mX7_within xw72 xw73 xw12 xw71 ⟨by decide +kernel, by decide +kernel, by decide +kernel⟩ ⟨by decide, by decide⟩
def caX7_now (B : Nat) (ad : Nat → Nat) : List (Nat × Nat × Nat × xR) := [(183, 0, 2, x_v 4 (eX4_look B ad)), (163, 0, 2, x_v 5 (eX5_entry B ad))]
def cxX7_now (B : Nat) (ad : Nat → Nat) : xC := (fun k => flX7.lookup k, fun k => csX7.lookup k, fun k => nwX7.lookup k, fun k => anX7.lookup k, fun k => (saX7.lookup k).map fun i => .ref (ad i), fun k => (caX7_now B ad).lookup k)
def eX7_now (B : Nat) (ad : Nat → Nat) : xR := x_ev B (some .long) (cxX7_now B ad) cX7_now 3
set_option maxRecDepth 20000 in
theorem mX7_now : x_Met l D cA ad B yX7_now cX7_now 3 (some .long) 1 21 (eX7_now B ad) := by
  show x_Met l D cA ad B yX7_now cX7_now 3 (some .long) 1 21 (x_ev B (some .long) (cxX7_now B ad) cX7_now 3)
  refine x_sound2 (own := RX7) (cx := cxX7_now B ad) (ini := false) rfl pnX7 (vcX7 rfl) (vsX7 rfl) (vfX7 rfl) (vnX7 rfl) (vaX7 rfl) ?_ (fun h => by cases h) _ _
  intro k kd n E hk
  have hm : (k, kd, n, E) ∈ caX7_now B ad := x_look hk
  simp only [caX7_now, List.mem_cons, List.not_mem_nil, or_false, Prod.mk.injEq] at hm
  rcases hm with ⟨rfl, rfl, rfl, rfl⟩ | ⟨rfl, rfl, rfl, rfl⟩
  · exact x_cwV (t := 4) mX4_look rfl (by decide) rfl xw97 xw58 xw59 xw56 xw55 ⟨by decide +kernel, by decide +kernel, by decide +kernel⟩ ⟨by decide, by decide⟩
  · exact x_cwV (t := 5) mX5_entry rfl (by decide) rfl xw143 xw144 xw145 xw5 xw142 ⟨by decide +kernel, by decide +kernel, by decide +kernel⟩ ⟨by decide, by decide⟩
def caX7_badness (B : Nat) (ad : Nat → Nat) : List (Nat × Nat × Nat × xR) := [(196, 1, 2, eX7_badnessOf B ad)]
def cxX7_badness (B : Nat) (ad : Nat → Nat) : xC := (fun k => flX7.lookup k, fun k => csX7.lookup k, fun k => nwX7.lookup k, fun k => anX7.lookup k, fun k => (saX7.lookup k).map fun i => .ref (ad i), fun k => (caX7_badness B ad).lookup k)
def eX7_badness (B : Nat) (ad : Nat → Nat) : xR := x_ev B (some .int) (cxX7_badness B ad) cX7_badness 3
set_option maxRecDepth 20000 in
theorem mX7_badness : x_Met l D cA ad B yX7_badness cX7_badness 3 (some .int) 1 25 (eX7_badness B ad) := by
  show x_Met l D cA ad B yX7_badness cX7_badness 3 (some .int) 1 25 (x_ev B (some .int) (cxX7_badness B ad) cX7_badness 3)
  refine x_sound2 (own := RX7) (cx := cxX7_badness B ad) (ini := false) rfl pnX7 (vcX7 rfl) (vsX7 rfl) (vfX7 rfl) (vnX7 rfl) (vaX7 rfl) ?_ (fun h => by cases h) _ _
  intro k kd n E hk
  have hm : (k, kd, n, E) ∈ caX7_badness B ad := x_look hk
  simp only [caX7_badness, List.mem_cons, List.not_mem_nil, or_false, Prod.mk.injEq] at hm
  rcases hm with ⟨rfl, rfl, rfl, rfl⟩
  · exact x_cwS mX7_badnessOf xw146 xw13 xw12 xw11 ⟨by decide +kernel, by decide +kernel, by decide +kernel⟩ ⟨by decide, by decide⟩
def caX7_count (B : Nat) (ad : Nat → Nat) : List (Nat × Nat × Nat × xR) := []
def cxX7_count (B : Nat) (ad : Nat → Nat) : xC := (fun k => flX7.lookup k, fun k => csX7.lookup k, fun k => nwX7.lookup k, fun k => anX7.lookup k, fun k => (saX7.lookup k).map fun i => .ref (ad i), fun k => (caX7_count B ad).lookup k)
def eX7_count (B : Nat) (ad : Nat → Nat) : xR := x_ev B (some .int) (cxX7_count B ad) cX7_count 2
set_option maxRecDepth 20000 in
theorem mX7_count : x_Met l D cA ad B yX7_count cX7_count 2 (some .int) 0 0 (eX7_count B ad) := by
  show x_Met l D cA ad B yX7_count cX7_count 2 (some .int) 0 0 (x_ev B (some .int) (cxX7_count B ad) cX7_count 2)
  refine x_sound2 (own := RX7) (cx := cxX7_count B ad) (ini := false) rfl pnX7 (vcX7 rfl) (vsX7 rfl) (vfX7 rfl) (vnX7 rfl) (vaX7 rfl) ?_ (fun h => by cases h) _ _
  intro k kd n E hk
  have hm : (k, kd, n, E) ∈ caX7_count B ad := x_look hk
  simp only [caX7_count, List.mem_cons, List.not_mem_nil, or_false, Prod.mk.injEq] at hm
def caX7_tallyPages (B : Nat) (ad : Nat → Nat) : List (Nat × Nat × Nat × xR) := [(56, 1, 3, eX7_within B ad), (213, 0, 2, x_v 3 (eX2_tallyOnPage B ad))]
def cxX7_tallyPages (B : Nat) (ad : Nat → Nat) : xC := (fun k => flX7.lookup k, fun k => csX7.lookup k, fun k => nwX7.lookup k, fun k => anX7.lookup k, fun k => (saX7.lookup k).map fun i => .ref (ad i), fun k => (caX7_tallyPages B ad).lookup k)
def eX7_tallyPages (B : Nat) (ad : Nat → Nat) : xR := x_ev B none (cxX7_tallyPages B ad) cX7_tallyPages 5
set_option maxRecDepth 20000 in
theorem mX7_tallyPages : x_Met l D cA ad B yX7_tallyPages cX7_tallyPages 5 none 1 22 (eX7_tallyPages B ad) := by
  show x_Met l D cA ad B yX7_tallyPages cX7_tallyPages 5 none 1 22 (x_ev B none (cxX7_tallyPages B ad) cX7_tallyPages 5)
  refine x_sound2 (own := RX7) (cx := cxX7_tallyPages B ad) (ini := false) rfl pnX7 (vcX7 rfl) (vsX7 rfl) (vfX7 rfl) (vnX7 rfl) (vaX7 rfl) ?_ (fun h => by cases h) _ _
  intro k kd n E hk
  have hm : (k, kd, n, E) ∈ caX7_tallyPages B ad := x_look hk
  simp only [caX7_tallyPages, List.mem_cons, List.not_mem_nil, or_false, Prod.mk.injEq] at hm
  rcases hm with ⟨rfl, rfl, rfl, rfl⟩ | ⟨rfl, rfl, rfl, rfl⟩
  · exact x_cwS mX7_within xw72 xw73 xw12 xw71 ⟨by decide +kernel, by decide +kernel, by decide +kernel⟩ ⟨by decide, by decide⟩
  · exact x_cwV (t := 3) mX2_tallyOnPage rfl (by decide) rfl xw148 xw149 xw150 xw82 xw147 ⟨by decide +kernel, by decide +kernel, by decide +kernel⟩ ⟨by decide, by decide⟩
def caX7_check (B : Nat) (ad : Nat → Nat) : List (Nat × Nat × Nat × xR) := [(200, 0, 1, x_v 3 (eX2_startTally B ad)), (203, 0, 1, x_v 7 (eX7_tallyPages B ad)), (183, 0, 2, x_v 4 (eX4_look B ad)), (210, 0, 1, x_v 3 (eX2_tallyIsRight B ad))]
def cxX7_check (B : Nat) (ad : Nat → Nat) : xC := (fun k => flX7.lookup k, fun k => csX7.lookup k, fun k => nwX7.lookup k, fun k => anX7.lookup k, fun k => (saX7.lookup k).map fun i => .ref (ad i), fun k => (caX7_check B ad).lookup k)
def eX7_check (B : Nat) (ad : Nat → Nat) : xR := x_ev B (some .int) (cxX7_check B ad) cX7_check 3
set_option maxRecDepth 20000 in
theorem mX7_check : x_Met l D cA ad B yX7_check cX7_check 3 (some .int) 2 46 (eX7_check B ad) := by
  show x_Met l D cA ad B yX7_check cX7_check 3 (some .int) 2 46 (x_ev B (some .int) (cxX7_check B ad) cX7_check 3)
  refine x_sound2 (own := RX7) (cx := cxX7_check B ad) (ini := false) rfl pnX7 (vcX7 rfl) (vsX7 rfl) (vfX7 rfl) (vnX7 rfl) (vaX7 rfl) ?_ (fun h => by cases h) _ _
  intro k kd n E hk
  have hm : (k, kd, n, E) ∈ caX7_check B ad := x_look hk
  simp only [caX7_check, List.mem_cons, List.not_mem_nil, or_false, Prod.mk.injEq] at hm
  rcases hm with ⟨rfl, rfl, rfl, rfl⟩ | ⟨rfl, rfl, rfl, rfl⟩ | ⟨rfl, rfl, rfl, rfl⟩ | ⟨rfl, rfl, rfl, rfl⟩
  · exact x_cwV (t := 3) mX2_startTally rfl (by decide) rfl xw152 xw153 xw154 xw82 xw151 ⟨by decide +kernel, by decide +kernel, by decide +kernel⟩ ⟨by decide, by decide⟩
  · exact x_cwV (t := 7) mX7_tallyPages rfl (by decide) rfl xw156 xw157 xw158 xw12 xw155 ⟨by decide +kernel, by decide +kernel, by decide +kernel⟩ ⟨by decide, by decide⟩
  · exact x_cwV (t := 4) mX4_look rfl (by decide) rfl xw97 xw58 xw59 xw56 xw55 ⟨by decide +kernel, by decide +kernel, by decide +kernel⟩ ⟨by decide, by decide⟩
  · exact x_cwV (t := 3) mX2_tallyIsRight rfl (by decide) rfl xw160 xw161 xw162 xw82 xw159 ⟨by decide +kernel, by decide +kernel, by decide +kernel⟩ ⟨by decide, by decide⟩
def caX8_begin (B : Nat) (ad : Nat → Nat) : List (Nat × Nat × Nat × xR) := []
def cxX8_begin (B : Nat) (ad : Nat → Nat) : xC := (fun k => flX8.lookup k, fun k => csX8.lookup k, fun k => nwX8.lookup k, fun k => anX8.lookup k, fun k => (saX8.lookup k).map fun i => .ref (ad i), fun k => (caX8_begin B ad).lookup k)
def eX8_begin (B : Nat) (ad : Nat → Nat) : xR := x_ev B none (cxX8_begin B ad) cX8_begin 2
set_option maxRecDepth 20000 in
theorem mX8_begin : x_Met l D cA ad B yX8_begin cX8_begin 2 none 0 0 (eX8_begin B ad) := by
  show x_Met l D cA ad B yX8_begin cX8_begin 2 none 0 0 (x_ev B none (cxX8_begin B ad) cX8_begin 2)
  refine x_sound2 (own := RX8) (cx := cxX8_begin B ad) (ini := false) rfl pnX8 (vcX8 rfl) (vsX8 rfl) (vfX8 rfl) (vnX8 rfl) (vaX8 rfl) ?_ (fun h => by cases h) _ _
  intro k kd n E hk
  have hm : (k, kd, n, E) ∈ caX8_begin B ad := x_look hk
  simp only [caX8_begin, List.mem_cons, List.not_mem_nil, or_false, Prod.mk.injEq] at hm
def caX8_init (B : Nat) (ad : Nat → Nat) : List (Nat × Nat × Nat × xR) := [(1, 2, 1, x_obj), (97, 0, 1, x_v 8 (eX8_begin B ad))]
def cxX8_init (B : Nat) (ad : Nat → Nat) : xC := (fun k => flX8i.lookup k, fun k => csX8.lookup k, fun k => nwX8.lookup k, fun k => anX8.lookup k, fun k => (saX8.lookup k).map fun i => .ref (ad i), fun k => (caX8_init B ad).lookup k)
def eX8_init (B : Nat) (ad : Nat → Nat) : xR := x_ev B none (cxX8_init B ad) cX8_init 1
set_option maxRecDepth 20000 in
theorem mX8_init : x_Met l D cA ad B yX8_init cX8_init 1 none 1 21 (eX8_init B ad) := by
  show x_Met l D cA ad B yX8_init cX8_init 1 none 1 21 (x_ev B none (cxX8_init B ad) cX8_init 1)
  refine x_sound2 (own := RX8) (cx := cxX8_init B ad) (ini := true) rfl pnX8 (vcX8 rfl) (vsX8 rfl) (vfX8i rfl) (vnX8 rfl) (vaX8 rfl) ?_ (fun _ => rfl) _ _
  intro k kd n E hk
  have hm : (k, kd, n, E) ∈ caX8_init B ad := x_look hk
  simp only [caX8_init, List.mem_cons, List.not_mem_nil, or_false, Prod.mk.injEq] at hm
  rcases hm with ⟨rfl, rfl, rfl, rfl⟩ | ⟨rfl, rfl, rfl, rfl⟩
  · exact x_cwO xw163 xw1 xw2 ⟨by decide, by decide⟩
  · exact x_cwV (t := 8) mX8_begin rfl (by decide) rfl xw166 xw167 xw168 xw165 xw164 ⟨by decide +kernel, by decide +kernel, by decide +kernel⟩ ⟨by decide, by decide⟩
def caX8_thrown (B : Nat) (ad : Nat → Nat) : List (Nat × Nat × Nat × xR) := []
def cxX8_thrown (B : Nat) (ad : Nat → Nat) : xC := (fun k => flX8.lookup k, fun k => csX8.lookup k, fun k => nwX8.lookup k, fun k => anX8.lookup k, fun k => (saX8.lookup k).map fun i => .ref (ad i), fun k => (caX8_thrown B ad).lookup k)
def eX8_thrown (B : Nat) (ad : Nat → Nat) : xR := x_ev B (some .int) (cxX8_thrown B ad) cX8_thrown 1
set_option maxRecDepth 20000 in
theorem mX8_thrown : x_Met l D cA ad B yX8_thrown cX8_thrown 1 (some .int) 0 0 (eX8_thrown B ad) := by
  show x_Met l D cA ad B yX8_thrown cX8_thrown 1 (some .int) 0 0 (x_ev B (some .int) (cxX8_thrown B ad) cX8_thrown 1)
  refine x_sound2 (own := RX8) (cx := cxX8_thrown B ad) (ini := false) rfl pnX8 (vcX8 rfl) (vsX8 rfl) (vfX8 rfl) (vnX8 rfl) (vaX8 rfl) ?_ (fun h => by cases h) _ _
  intro k kd n E hk
  have hm : (k, kd, n, E) ∈ caX8_thrown B ad := x_look hk
  simp only [caX8_thrown, List.mem_cons, List.not_mem_nil, or_false, Prod.mk.injEq] at hm
def caX8_in (B : Nat) (ad : Nat → Nat) : List (Nat × Nat × Nat × xR) := []
def cxX8_in (B : Nat) (ad : Nat → Nat) : xC := (fun k => flX8.lookup k, fun k => csX8.lookup k, fun k => nwX8.lookup k, fun k => anX8.lookup k, fun k => (saX8.lookup k).map fun i => .ref (ad i), fun k => (caX8_in B ad).lookup k)
def eX8_in (B : Nat) (ad : Nat → Nat) : xR := x_ev B (some .boolean) (cxX8_in B ad) cX8_in 6
set_option maxRecDepth 20000 in
theorem mX8_in : x_Met l D cA ad B yX8_in cX8_in 6 (some .boolean) 0 0 (eX8_in B ad) := by
  show x_Met l D cA ad B yX8_in cX8_in 6 (some .boolean) 0 0 (x_ev B (some .boolean) (cxX8_in B ad) cX8_in 6)
  refine x_sound2 (own := RX8) (cx := cxX8_in B ad) (ini := false) rfl pnX8 (vcX8 rfl) (vsX8 rfl) (vfX8 rfl) (vnX8 rfl) (vaX8 rfl) ?_ (fun h => by cases h) _ _
  intro k kd n E hk
  have hm : (k, kd, n, E) ∈ caX8_in B ad := x_look hk
  simp only [caX8_in, List.mem_cons, List.not_mem_nil, or_false, Prod.mk.injEq] at hm
def caX8_set (B : Nat) (ad : Nat → Nat) : List (Nat × Nat × Nat × xR) := [(105, 1, 3, eX8_in B ad), (97, 0, 1, x_v 8 (eX8_begin B ad))]
def cxX8_set (B : Nat) (ad : Nat → Nat) : xC := (fun k => flX8.lookup k, fun k => csX8.lookup k, fun k => nwX8.lookup k, fun k => anX8.lookup k, fun k => (saX8.lookup k).map fun i => .ref (ad i), fun k => (caX8_set B ad).lookup k)
def eX8_set (B : Nat) (ad : Nat → Nat) : xR := x_ev B (some .int) (cxX8_set B ad) cX8_set 4
set_option maxRecDepth 20000 in
theorem mX8_set : x_Met l D cA ad B yX8_set cX8_set 4 (some .int) 1 25 (eX8_set B ad) := by
  show x_Met l D cA ad B yX8_set cX8_set 4 (some .int) 1 25 (x_ev B (some .int) (cxX8_set B ad) cX8_set 4)
  refine x_sound2 (own := RX8) (cx := cxX8_set B ad) (ini := false) rfl pnX8 (vcX8 rfl) (vsX8 rfl) (vfX8 rfl) (vnX8 rfl) (vaX8 rfl) ?_ (fun h => by cases h) _ _
  intro k kd n E hk
  have hm : (k, kd, n, E) ∈ caX8_set B ad := x_look hk
  simp only [caX8_set, List.mem_cons, List.not_mem_nil, or_false, Prod.mk.injEq] at hm
  rcases hm with ⟨rfl, rfl, rfl, rfl⟩ | ⟨rfl, rfl, rfl, rfl⟩
  · exact x_cwS mX8_in xw170 xw171 xw165 xw169 ⟨by decide +kernel, by decide +kernel, by decide +kernel⟩ ⟨by decide, by decide⟩
  · exact x_cwV (t := 8) mX8_begin rfl (by decide) rfl xw166 xw167 xw168 xw165 xw164 ⟨by decide +kernel, by decide +kernel, by decide +kernel⟩ ⟨by decide, by decide⟩
def caX8_cls (B : Nat) (ad : Nat → Nat) : List (Nat × Nat × Nat × xR) := [(105, 1, 3, eX8_in B ad)]
def cxX8_cls (B : Nat) (ad : Nat → Nat) : xC := (fun k => flX8.lookup k, fun k => csX8.lookup k, fun k => nwX8.lookup k, fun k => anX8.lookup k, fun k => (saX8.lookup k).map fun i => .ref (ad i), fun k => (caX8_cls B ad).lookup k)
def eX8_cls (B : Nat) (ad : Nat → Nat) : xR := x_ev B (some .int) (cxX8_cls B ad) cX8_cls 5
set_option maxRecDepth 20000 in
theorem mX8_cls : x_Met l D cA ad B yX8_cls cX8_cls 5 (some .int) 1 25 (eX8_cls B ad) := by
  show x_Met l D cA ad B yX8_cls cX8_cls 5 (some .int) 1 25 (x_ev B (some .int) (cxX8_cls B ad) cX8_cls 5)
  refine x_sound2 (own := RX8) (cx := cxX8_cls B ad) (ini := false) rfl pnX8 (vcX8 rfl) (vsX8 rfl) (vfX8 rfl) (vnX8 rfl) (vaX8 rfl) ?_ (fun h => by cases h) _ _
  intro k kd n E hk
  have hm : (k, kd, n, E) ∈ caX8_cls B ad := x_look hk
  simp only [caX8_cls, List.mem_cons, List.not_mem_nil, or_false, Prod.mk.injEq] at hm
  rcases hm with ⟨rfl, rfl, rfl, rfl⟩
  · exact x_cwS mX8_in xw170 xw171 xw165 xw169 ⟨by decide +kernel, by decide +kernel, by decide +kernel⟩ ⟨by decide, by decide⟩
def caX8_add (B : Nat) (ad : Nat → Nat) : List (Nat × Nat × Nat × xR) := []
def cxX8_add (B : Nat) (ad : Nat → Nat) : xC := (fun k => flX8.lookup k, fun k => csX8.lookup k, fun k => nwX8.lookup k, fun k => anX8.lookup k, fun k => (saX8.lookup k).map fun i => .ref (ad i), fun k => (caX8_add B ad).lookup k)
def eX8_add (B : Nat) (ad : Nat → Nat) : xR := x_ev B (some .int) (cxX8_add B ad) cX8_add 6
set_option maxRecDepth 20000 in
theorem mX8_add : x_Met l D cA ad B yX8_add cX8_add 6 (some .int) 0 0 (eX8_add B ad) := by
  show x_Met l D cA ad B yX8_add cX8_add 6 (some .int) 0 0 (x_ev B (some .int) (cxX8_add B ad) cX8_add 6)
  refine x_sound2 (own := RX8) (cx := cxX8_add B ad) (ini := false) rfl pnX8 (vcX8 rfl) (vsX8 rfl) (vfX8 rfl) (vnX8 rfl) (vaX8 rfl) ?_ (fun h => by cases h) _ _
  intro k kd n E hk
  have hm : (k, kd, n, E) ∈ caX8_add B ad := x_look hk
  simp only [caX8_add, List.mem_cons, List.not_mem_nil, or_false, Prod.mk.injEq] at hm
def caX8_box (B : Nat) (ad : Nat → Nat) : List (Nat × Nat × Nat × xR) := [(105, 1, 3, eX8_in B ad), (133, 0, 6, x_v 8 (eX8_add B ad))]
def cxX8_box (B : Nat) (ad : Nat → Nat) : xC := (fun k => flX8.lookup k, fun k => csX8.lookup k, fun k => nwX8.lookup k, fun k => anX8.lookup k, fun k => (saX8.lookup k).map fun i => .ref (ad i), fun k => (caX8_box B ad).lookup k)
def eX8_box (B : Nat) (ad : Nat → Nat) : xR := x_ev B (some .int) (cxX8_box B ad) cX8_box 3
set_option maxRecDepth 20000 in
theorem mX8_box : x_Met l D cA ad B yX8_box cX8_box 3 (some .int) 1 25 (eX8_box B ad) := by
  show x_Met l D cA ad B yX8_box cX8_box 3 (some .int) 1 25 (x_ev B (some .int) (cxX8_box B ad) cX8_box 3)
  refine x_sound2 (own := RX8) (cx := cxX8_box B ad) (ini := false) rfl pnX8 (vcX8 rfl) (vsX8 rfl) (vfX8 rfl) (vnX8 rfl) (vaX8 rfl) ?_ (fun h => by cases h) _ _
  intro k kd n E hk
  have hm : (k, kd, n, E) ∈ caX8_box B ad := x_look hk
  simp only [caX8_box, List.mem_cons, List.not_mem_nil, or_false, Prod.mk.injEq] at hm
  rcases hm with ⟨rfl, rfl, rfl, rfl⟩ | ⟨rfl, rfl, rfl, rfl⟩
  · exact x_cwS mX8_in xw170 xw171 xw165 xw169 ⟨by decide +kernel, by decide +kernel, by decide +kernel⟩ ⟨by decide, by decide⟩
  · exact x_cwV (t := 8) mX8_add rfl (by decide) rfl xw173 xw174 xw175 xw165 xw172 ⟨by decide +kernel, by decide +kernel, by decide +kernel⟩ ⟨by decide, by decide⟩
def caX8_glue (B : Nat) (ad : Nat → Nat) : List (Nat × Nat × Nat × xR) := [(105, 1, 3, eX8_in B ad), (133, 0, 6, x_v 8 (eX8_add B ad))]
def cxX8_glue (B : Nat) (ad : Nat → Nat) : xC := (fun k => flX8.lookup k, fun k => csX8.lookup k, fun k => nwX8.lookup k, fun k => anX8.lookup k, fun k => (saX8.lookup k).map fun i => .ref (ad i), fun k => (caX8_glue B ad).lookup k)
def eX8_glue (B : Nat) (ad : Nat → Nat) : xR := x_ev B (some .int) (cxX8_glue B ad) cX8_glue 5
set_option maxRecDepth 20000 in
theorem mX8_glue : x_Met l D cA ad B yX8_glue cX8_glue 5 (some .int) 1 25 (eX8_glue B ad) := by
  show x_Met l D cA ad B yX8_glue cX8_glue 5 (some .int) 1 25 (x_ev B (some .int) (cxX8_glue B ad) cX8_glue 5)
  refine x_sound2 (own := RX8) (cx := cxX8_glue B ad) (ini := false) rfl pnX8 (vcX8 rfl) (vsX8 rfl) (vfX8 rfl) (vnX8 rfl) (vaX8 rfl) ?_ (fun h => by cases h) _ _
  intro k kd n E hk
  have hm : (k, kd, n, E) ∈ caX8_glue B ad := x_look hk
  simp only [caX8_glue, List.mem_cons, List.not_mem_nil, or_false, Prod.mk.injEq] at hm
  rcases hm with ⟨rfl, rfl, rfl, rfl⟩ | ⟨rfl, rfl, rfl, rfl⟩
  · exact x_cwS mX8_in xw170 xw171 xw165 xw169 ⟨by decide +kernel, by decide +kernel, by decide +kernel⟩ ⟨by decide, by decide⟩
  · exact x_cwV (t := 8) mX8_add rfl (by decide) rfl xw173 xw174 xw175 xw165 xw172 ⟨by decide +kernel, by decide +kernel, by decide +kernel⟩ ⟨by decide, by decide⟩
def caX8_kern (B : Nat) (ad : Nat → Nat) : List (Nat × Nat × Nat × xR) := [(105, 1, 3, eX8_in B ad), (133, 0, 6, x_v 8 (eX8_add B ad))]
def cxX8_kern (B : Nat) (ad : Nat → Nat) : xC := (fun k => flX8.lookup k, fun k => csX8.lookup k, fun k => nwX8.lookup k, fun k => anX8.lookup k, fun k => (saX8.lookup k).map fun i => .ref (ad i), fun k => (caX8_kern B ad).lookup k)
def eX8_kern (B : Nat) (ad : Nat → Nat) : xR := x_ev B (some .int) (cxX8_kern B ad) cX8_kern 2
set_option maxRecDepth 20000 in
theorem mX8_kern : x_Met l D cA ad B yX8_kern cX8_kern 2 (some .int) 1 25 (eX8_kern B ad) := by
  show x_Met l D cA ad B yX8_kern cX8_kern 2 (some .int) 1 25 (x_ev B (some .int) (cxX8_kern B ad) cX8_kern 2)
  refine x_sound2 (own := RX8) (cx := cxX8_kern B ad) (ini := false) rfl pnX8 (vcX8 rfl) (vsX8 rfl) (vfX8 rfl) (vnX8 rfl) (vaX8 rfl) ?_ (fun h => by cases h) _ _
  intro k kd n E hk
  have hm : (k, kd, n, E) ∈ caX8_kern B ad := x_look hk
  simp only [caX8_kern, List.mem_cons, List.not_mem_nil, or_false, Prod.mk.injEq] at hm
  rcases hm with ⟨rfl, rfl, rfl, rfl⟩ | ⟨rfl, rfl, rfl, rfl⟩
  · exact x_cwS mX8_in xw170 xw171 xw165 xw169 ⟨by decide +kernel, by decide +kernel, by decide +kernel⟩ ⟨by decide, by decide⟩
  · exact x_cwV (t := 8) mX8_add rfl (by decide) rfl xw173 xw174 xw175 xw165 xw172 ⟨by decide +kernel, by decide +kernel, by decide +kernel⟩ ⟨by decide, by decide⟩
end XCT
