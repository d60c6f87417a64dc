/-! METHODS as relations, and their contracts -/
section XCT
variable {l : Launch} {D : va_G} {cA ad : Nat → Nat} {B : Nat}
def caX4_init (B : Nat) (ad : Nat → Nat) : List (Nat × Nat × Nat × xR) := [(3, 2, 1, x_obj)]
def cxX4_init (B : Nat) (ad : Nat → Nat) : xC := (fun k => flX4i.lookup k, fun k => csX4.lookup k, fun k => nwX4.lookup k, fun k => anX4.lookup k, fun k => (saX4.lookup k).map fun i => .ref (ad i), fun k => (caX4_init B ad).lookup k)
def eX4_init (B : Nat) (ad : Nat → Nat) : xR := x_ev B none (cxX4_init B ad) cX4_init 1
set_option maxRecDepth 20000 in
theorem mX4_init : x_Met l D cA ad B yX4_init cX4_init 1 none 1 20 (eX4_init B ad) := by
  show x_Met l D cA ad B yX4_init cX4_init 1 none 1 20 (x_ev B none (cxX4_init B ad) cX4_init 1)
  refine x_sound2 (own := RX4) (cx := cxX4_init B ad) (ini := true) rfl pnX4 (vcX4 rfl) (vsX4 rfl) (vfX4i rfl) (vnX4 rfl) (vaX4 rfl) ?_ (fun _ => rfl) _ _
  intro k kd n E hk
  have hm : (k, kd, n, E) ∈ caX4_init B ad := x_look hk
  simp only [caX4_init, List.mem_cons, List.not_mem_nil, or_false, Prod.mk.injEq] at hm
  rcases hm with ⟨rfl, rfl, rfl, rfl⟩
  · exact x_cwO xw54 xw1 xw2 ⟨by decide, by decide⟩
def caX4_look (B : Nat) (ad : Nat → Nat) : List (Nat × Nat × Nat × xR) := []
def cxX4_look (B : Nat) (ad : Nat → Nat) : xC := (fun k => flX4.lookup k, fun k => csX4.lookup k, fun k => nwX4.lookup k, fun k => anX4.lookup k, fun k => (saX4.lookup k).map fun i => .ref (ad i), fun k => (caX4_look B ad).lookup k)
def eX4_look (B : Nat) (ad : Nat → Nat) : xR := x_ev B (some (.object "PageBuilder$Item")) (cxX4_look B ad) cX4_look 2
set_option maxRecDepth 20000 in
theorem mX4_look : x_Met l D cA ad B yX4_look cX4_look 2 (some (.object "PageBuilder$Item")) 0 0 (eX4_look B ad) := by
  show x_Met l D cA ad B yX4_look cX4_look 2 (some (.object "PageBuilder$Item")) 0 0 (x_ev B (some (.object "PageBuilder$Item")) (cxX4_look B ad) cX4_look 2)
  refine x_sound2 (own := RX4) (cx := cxX4_look B ad) (ini := false) rfl pnX4 (vcX4 rfl) (vsX4 rfl) (vfX4 rfl) (vnX4 rfl) (vaX4 rfl) ?_ (fun h => by cases h) _ _
  intro k kd n E hk
  have hm : (k, kd, n, E) ∈ caX4_look B ad := x_look hk
  simp only [caX4_look, List.mem_cons, List.not_mem_nil, or_false, Prod.mk.injEq] at hm
def caX4_addLast (B : Nat) (ad : Nat → Nat) : List (Nat × Nat × Nat × xR) := []
def cxX4_addLast (B : Nat) (ad : Nat → Nat) : xC := (fun k => flX4.lookup k, fun k => csX4.lookup k, fun k => nwX4.lookup k, fun k => anX4.lookup k, fun k => (saX4.lookup k).map fun i => .ref (ad i), fun k => (caX4_addLast B ad).lookup k)
def eX4_addLast (B : Nat) (ad : Nat → Nat) : xR := x_ev B none (cxX4_addLast B ad) cX4_addLast 2
set_option maxRecDepth 20000 in
theorem mX4_addLast : x_Met l D cA ad B yX4_addLast cX4_addLast 2 none 0 0 (eX4_addLast B ad) := by
  show x_Met l D cA ad B yX4_addLast cX4_addLast 2 none 0 0 (x_ev B none (cxX4_addLast B ad) cX4_addLast 2)
  refine x_sound2 (own := RX4) (cx := cxX4_addLast B ad) (ini := false) rfl pnX4 (vcX4 rfl) (vsX4 rfl) (vfX4 rfl) (vnX4 rfl) (vaX4 rfl) ?_ (fun h => by cases h) _ _
  intro k kd n E hk
  have hm : (k, kd, n, E) ∈ caX4_addLast B ad := x_look hk
  simp only [caX4_addLast, List.mem_cons, List.not_mem_nil, or_false, Prod.mk.injEq] at hm
def caX4_addFirst (B : Nat) (ad : Nat → Nat) : List (Nat × Nat × Nat × xR) := []
def cxX4_addFirst (B : Nat) (ad : Nat → Nat) : xC := (fun k => flX4.lookup k, fun k => csX4.lookup k, fun k => nwX4.lookup k, fun k => anX4.lookup k, fun k => (saX4.lookup k).map fun i => .ref (ad i), fun k => (caX4_addFirst B ad).lookup k)
def eX4_addFirst (B : Nat) (ad : Nat → Nat) : xR := x_ev B none (cxX4_addFirst B ad) cX4_addFirst 2
set_option maxRecDepth 20000 in
theorem mX4_addFirst : x_Met l D cA ad B yX4_addFirst cX4_addFirst 2 none 0 0 (eX4_addFirst B ad) := by
  show x_Met l D cA ad B yX4_addFirst cX4_addFirst 2 none 0 0 (x_ev B none (cxX4_addFirst B ad) cX4_addFirst 2)
  refine x_sound2 (own := RX4) (cx := cxX4_addFirst B ad) (ini := false) rfl pnX4 (vcX4 rfl) (vsX4 rfl) (vfX4 rfl) (vnX4 rfl) (vaX4 rfl) ?_ (fun h => by cases h) _ _
  intro k kd n E hk
  have hm : (k, kd, n, E) ∈ caX4_addFirst B ad := x_look hk
  simp only [caX4_addFirst, List.mem_cons, List.not_mem_nil, or_false, Prod.mk.injEq] at hm
def caX4_takeFirst (B : Nat) (ad : Nat → Nat) : List (Nat × Nat × Nat × xR) := [(24, 0, 2, x_v 4 (eX4_look B ad))]
def cxX4_takeFirst (B : Nat) (ad : Nat → Nat) : xC := (fun k => flX4.lookup k, fun k => csX4.lookup k, fun k => nwX4.lookup k, fun k => anX4.lookup k, fun k => (saX4.lookup k).map fun i => .ref (ad i), fun k => (caX4_takeFirst B ad).lookup k)
def eX4_takeFirst (B : Nat) (ad : Nat → Nat) : xR := x_ev B (some (.object "PageBuilder$Item")) (cxX4_takeFirst B ad) cX4_takeFirst 2
set_option maxRecDepth 20000 in
theorem mX4_takeFirst : x_Met l D cA ad B yX4_takeFirst cX4_takeFirst 2 (some (.object "PageBuilder$Item")) 1 21 (eX4_takeFirst B ad) := by
  show x_Met l D cA ad B yX4_takeFirst cX4_takeFirst 2 (some (.object "PageBuilder$Item")) 1 21 (x_ev B (some (.object "PageBuilder$Item")) (cxX4_takeFirst B ad) cX4_takeFirst 2)
  refine x_sound2 (own := RX4) (cx := cxX4_takeFirst B ad) (ini := false) rfl pnX4 (vcX4 rfl) (vsX4 rfl) (vfX4 rfl) (vnX4 rfl) (vaX4 rfl) ?_ (fun h => by cases h) _ _
  intro k kd n E hk
  have hm : (k, kd, n, E) ∈ caX4_takeFirst B ad := x_look hk
  simp only [caX4_takeFirst, List.mem_cons, List.not_mem_nil, or_false, Prod.mk.injEq] at hm
  rcases hm with ⟨rfl, rfl, rfl, rfl⟩
  · exact x_cwV (t := 4) mX4_look rfl (by decide) rfl xw57 xw58 xw59 xw56 xw55 ⟨by decide +kernel, by decide +kernel, by decide +kernel⟩ ⟨by decide, by decide⟩
def caX5_entry (B : Nat) (ad : Nat → Nat) : List (Nat × Nat × Nat × xR) := []
def cxX5_entry (B : Nat) (ad : Nat → Nat) : xC := (fun k => flX5.lookup k, fun k => csX5.lookup k, fun k => nwX5.lookup k, fun k => anX5.lookup k, fun k => (saX5.lookup k).map fun i => .ref (ad i), fun k => (caX5_entry B ad).lookup k)
def eX5_entry (B : Nat) (ad : Nat → Nat) : xR := x_ev B (some .long) (cxX5_entry B ad) cX5_entry 2
set_option maxRecDepth 20000 in
theorem mX5_entry : x_Met l D cA ad B yX5_entry cX5_entry 2 (some .long) 0 0 (eX5_entry B ad) := by
  show x_Met l D cA ad B yX5_entry cX5_entry 2 (some .long) 0 0 (x_ev B (some .long) (cxX5_entry B ad) cX5_entry 2)
  refine x_sound2 (own := RX5) (cx := cxX5_entry B ad) (ini := false) rfl pnX5 (vcX5 rfl) (vsX5 rfl) (vfX5 rfl) (vnX5 rfl) (vaX5 rfl) ?_ (fun h => by cases h) _ _
  intro k kd n E hk
  have hm : (k, kd, n, E) ∈ caX5_entry B ad := x_look hk
  simp only [caX5_entry, List.mem_cons, List.not_mem_nil, or_false, Prod.mk.injEq] at hm
def caX6_init (B : Nat) (ad : Nat → Nat) : List (Nat × Nat × Nat × xR) := [(1, 2, 1, x_obj), (9, 2, 1, x_n1 (eX5_init B ad)), (54, 0, 2, x_v 5 (eX5_copyFrom B ad))]
def cxX6_init (B : Nat) (ad : Nat → Nat) : xC := (fun k => flX6i.lookup k, fun k => csX6.lookup k, fun k => nwX6.lookup k, fun k => anX6.lookup k, fun k => (saX6.lookup k).map fun i => .ref (ad i), fun k => (caX6_init B ad).lookup k)
def eX6_init (B : Nat) (ad : Nat → Nat) : xR := x_ev B none (cxX6_init B ad) cX6_init 9
set_option maxRecDepth 20000 in
theorem mX6_init : x_Met l D cA ad B yX6_init cX6_init 9 none 2 40 (eX6_init B ad) := by
  show x_Met l D cA ad B yX6_init cX6_init 9 none 2 40 (x_ev B none (cxX6_init B ad) cX6_init 9)
  refine x_sound2 (own := RX6) (cx := cxX6_init B ad) (ini := true) rfl pnX6 (vcX6 rfl) (vsX6 rfl) (vfX6i rfl) (vnX6 rfl) (vaX6 rfl) ?_ (fun _ => rfl) _ _
  intro k kd n E hk
  have hm : (k, kd, n, E) ∈ caX6_init B ad := x_look hk
  simp only [caX6_init, List.mem_cons, List.not_mem_nil, or_false, Prod.mk.injEq] at hm
  rcases hm with ⟨rfl, rfl, rfl, rfl⟩ | ⟨rfl, rfl, rfl, rfl⟩ | ⟨rfl, rfl, rfl, rfl⟩
  · exact x_cwO xw60 xw1 xw2 ⟨by decide, by decide⟩
  · exact x_cwIN (host := "PageBuilder") mX5_init rfl (by unfold x_nest; exact List.mem_filter.mpr ⟨by decide +kernel, rfl⟩) xw6 xw5 xw4 ⟨by decide +kernel, by decide +kernel, by decide +kernel⟩ ⟨by decide, by decide⟩
  · exact x_cwV (t := 5) mX5_copyFrom rfl (by decide) rfl xw61 xw25 xw26 xw5 xw23 ⟨by decide +kernel, by decide +kernel, by decide +kernel⟩ ⟨by decide, by decide⟩
def caX7_init (B : Nat) (ad : Nat → Nat) : List (Nat × Nat × Nat × xR) := [(1, 2, 1, x_obj), (29, 2, 1, x_n1 (eX4_init B ad)), (36, 2, 1, x_n1 (eX0_init B ad)), (51, 0, 4, x_v 1 (eX0_begin B ad))]
def cxX7_init (B : Nat) (ad : Nat → Nat) : xC := (fun k => flX7i.lookup k, fun k => csX7.lookup k, fun k => nwX7.lookup k, fun k => anX7.lookup k, fun k => (saX7.lookup k).map fun i => .ref (ad i), fun k => (caX7_init B ad).lookup k)
def eX7_init (B : Nat) (ad : Nat → Nat) : xR := x_ev B none (cxX7_init B ad) cX7_init 1
set_option maxRecDepth 20000 in
theorem mX7_init : x_Met l D cA ad B yX7_init cX7_init 1 none 3 60 (eX7_init B ad) := by
  show x_Met l D cA ad B yX7_init cX7_init 1 none 3 60 (x_ev B none (cxX7_init B ad) cX7_init 1)
  refine x_sound2 (own := RX7) (cx := cxX7_init B ad) (ini := true) rfl pnX7 (vcX7 rfl) (vsX7 rfl) (vfX7i rfl) (vnX7 rfl) (vaX7 rfl) ?_ (fun _ => rfl) _ _
  intro k kd n E hk
  have hm : (k, kd, n, E) ∈ caX7_init B ad := x_look hk
  simp only [caX7_init, List.mem_cons, List.not_mem_nil, or_false, Prod.mk.injEq] at hm
  rcases hm with ⟨rfl, rfl, rfl, rfl⟩ | ⟨rfl, rfl, rfl, rfl⟩ | ⟨rfl, rfl, rfl, rfl⟩ | ⟨rfl, rfl, rfl, rfl⟩
  · exact x_cwO xw62 xw1 xw2 ⟨by decide, by decide⟩
  · exact x_cwIN (host := "PageBuilder") mX4_init rfl (by unfold x_nest; exact List.mem_filter.mpr ⟨by decide +kernel, rfl⟩) xw64 xw56 xw63 ⟨by decide +kernel, by decide +kernel, by decide +kernel⟩ ⟨by decide, by decide⟩
  · exact x_cwIN (host := "PageBuilder") mX0_init rfl (by unfold x_nest; exact List.mem_filter.mpr ⟨by decide +kernel, rfl⟩) xw66 xw19 xw65 ⟨by decide +kernel, by decide +kernel, by decide +kernel⟩ ⟨by decide, by decide⟩
  · exact x_cwV (t := 1) mX0_begin rfl (by decide) rfl xw68 xw69 xw70 xw19 xw67 ⟨by decide +kernel, by decide +kernel, by decide +kernel⟩ ⟨by decide, by decide⟩
def caX7_within (B : Nat) (ad : Nat → Nat) : List (Nat × Nat × Nat × xR) := []
def cxX7_within (B : Nat) (ad : Nat → Nat) : xC := (fun k => flX7.lookup k, fun k => csX7.lookup k, fun k => nwX7.lookup k, fun k => anX7.lookup k, fun k => (saX7.lookup k).map fun i => .ref (ad i), fun k => (caX7_within B ad).lookup k)
def eX7_within (B : Nat) (ad : Nat → Nat) : xR := x_ev B (some .boolean) (cxX7_within B ad) cX7_within 3
set_option maxRecDepth 20000 in
theorem mX7_within : x_Met l D cA ad B yX7_within cX7_within 3 (some .boolean) 0 0 (eX7_within B ad) := by
  show x_Met l D cA ad B yX7_within cX7_within 3 (some .boolean) 0 0 (x_ev B (some .boolean) (cxX7_within B ad) cX7_within 3)
  refine x_sound2 (own := RX7) (cx := cxX7_within B ad) (ini := false) rfl pnX7 (vcX7 rfl) (vsX7 rfl) (vfX7 rfl) (vnX7 rfl) (vaX7 rfl) ?_ (fun h => by cases h) _ _
  intro k kd n E hk
  have hm : (k, kd, n, E) ∈ caX7_within B ad := x_look hk
  simp only [caX7_within, List.mem_cons, List.not_mem_nil, or_false, Prod.mk.injEq] at hm
def caX7_set (B : Nat) (ad : Nat → Nat) : List (Nat × Nat × Nat × xR) := [(56, 1, 3, eX7_within B ad), (51, 0, 4, x_v 1 (eX0_begin B ad))]
def cxX7_set (B : Nat) (ad : Nat → Nat) : xC := (fun k => flX7.lookup k, fun k => csX7.lookup k, fun k => nwX7.lookup k, fun k => anX7.lookup k, fun k => (saX7.lookup k).map fun i => .ref (ad i), fun k => (caX7_set B ad).lookup k)
def eX7_set (B : Nat) (ad : Nat → Nat) : xR := x_ev B (some .int) (cxX7_set B ad) cX7_set 4
set_option maxRecDepth 20000 in
theorem mX7_set : x_Met l D cA ad B yX7_set cX7_set 4 (some .int) 2 47 (eX7_set B ad) := by
  show x_Met l D cA ad B yX7_set cX7_set 4 (some .int) 2 47 (x_ev B (some .int) (cxX7_set B ad) cX7_set 4)
  refine x_sound2 (own := RX7) (cx := cxX7_set B ad) (ini := false) rfl pnX7 (vcX7 rfl) (vsX7 rfl) (vfX7 rfl) (vnX7 rfl) (vaX7 rfl) ?_ (fun h => by cases h) _ _
  intro k kd n E hk
  have hm : (k, kd, n, E) ∈ caX7_set B ad := x_look hk
  simp only [caX7_set, List.mem_cons, List.not_mem_nil, or_false, Prod.mk.injEq] at hm
  rcases hm with ⟨rfl, rfl, rfl, rfl⟩ | ⟨rfl, rfl, rfl, rfl⟩
  · exact x_cwS mX7_within xw72 xw73 xw12 xw71 ⟨by decide +kernel, by decide +kernel, by decide +kernel⟩ ⟨by decide, by decide⟩
  · exact x_cwV (t := 1) mX0_begin rfl (by decide) rfl xw68 xw69 xw70 xw19 xw67 ⟨by decide +kernel, by decide +kernel, by decide +kernel⟩ ⟨by decide, by decide⟩
def caX7_cls (B : Nat) (ad : Nat → Nat) : List (Nat × Nat × Nat × xR) := [(56, 1, 3, eX7_within B ad), (66, 2, 6, x_n1 (eX1_init B ad))]
def cxX7_cls (B : Nat) (ad : Nat → Nat) : xC := (fun k => flX7.lookup k, fun k => csX7.lookup k, fun k => nwX7.lookup k, fun k => anX7.lookup k, fun k => (saX7.lookup k).map fun i => .ref (ad i), fun k => (caX7_cls B ad).lookup k)
def eX7_cls (B : Nat) (ad : Nat → Nat) : xR := x_ev B (some .int) (cxX7_cls B ad) cX7_cls 6
set_option maxRecDepth 20000 in
theorem mX7_cls : x_Met l D cA ad B yX7_cls cX7_cls 6 (some .int) 2 45 (eX7_cls B ad) := by
  show x_Met l D cA ad B yX7_cls cX7_cls 6 (some .int) 2 45 (x_ev B (some .int) (cxX7_cls B ad) cX7_cls 6)
  refine x_sound2 (own := RX7) (cx := cxX7_cls B ad) (ini := false) rfl pnX7 (vcX7 rfl) (vsX7 rfl) (vfX7 rfl) (vnX7 rfl) (vaX7 rfl) ?_ (fun h => by cases h) _ _
  intro k kd n E hk
  have hm : (k, kd, n, E) ∈ caX7_cls B ad := x_look hk
  simp only [caX7_cls, List.mem_cons, List.not_mem_nil, or_false, Prod.mk.injEq] at hm
  rcases hm with ⟨rfl, rfl, rfl, rfl⟩ | ⟨rfl, rfl, rfl, rfl⟩
  · exact x_cwS mX7_within xw72 xw73 xw12 xw71 ⟨by decide +kernel, by decide +kernel, by decide +kernel⟩ ⟨by decide, by decide⟩
  · exact x_cwI mX1_init rfl xw75 xw76 xw28 xw74 ⟨by decide +kernel, by decide +kernel, by decide +kernel⟩ ⟨by decide, by decide⟩
def caX7_addToLine (B : Nat) (ad : Nat → Nat) : List (Nat × Nat × Nat × xR) := [(217, 0, 2, x_v 4 (eX4_addLast B ad))]
def cxX7_addToLine (B : Nat) (ad : Nat → Nat) : xC := (fun k => flX7.lookup k, fun k => csX7.lookup k, fun k => nwX7.lookup k, fun k => anX7.lookup k, fun k => (saX7.lookup k).map fun i => .ref (ad i), fun k => (caX7_addToLine B ad).lookup k)
def eX7_addToLine (B : Nat) (ad : Nat → Nat) : xR := x_ev B (some .int) (cxX7_addToLine B ad) cX7_addToLine 2
set_option maxRecDepth 20000 in
theorem mX7_addToLine : x_Met l D cA ad B yX7_addToLine cX7_addToLine 2 (some .int) 1 21 (eX7_addToLine B ad) := by
  show x_Met l D cA ad B yX7_addToLine cX7_addToLine 2 (some .int) 1 21 (x_ev B (some .int) (cxX7_addToLine B ad) cX7_addToLine 2)
  refine x_sound2 (own := RX7) (cx := cxX7_addToLine B ad) (ini := false) rfl pnX7 (vcX7 rfl) (vsX7 rfl) (vfX7 rfl) (vnX7 rfl) (vaX7 rfl) ?_ (fun h => by cases h) _ _
  intro k kd n E hk
  have hm : (k, kd, n, E) ∈ caX7_addToLine B ad := x_look hk
  simp only [caX7_addToLine, List.mem_cons, List.not_mem_nil, or_false, Prod.mk.injEq] at hm
  rcases hm with ⟨rfl, rfl, rfl, rfl⟩
  · exact x_cwV (t := 4) mX4_addLast rfl (by decide) rfl xw78 xw79 xw80 xw56 xw77 ⟨by decide +kernel, by decide +kernel, by decide +kernel⟩ ⟨by decide, by decide⟩
def caX7_box (B : Nat) (ad : Nat → Nat) : List (Nat × Nat × Nat × xR) := [(56, 1, 3, eX7_within B ad), (79, 2, 4, x_n1 (eX2_init B ad)), (85, 0, 2, x_v 7 (eX7_addToLine B ad))]
def cxX7_box (B : Nat) (ad : Nat → Nat) : xC := (fun k => flX7.lookup k, fun k => csX7.lookup k, fun k => nwX7.lookup k, fun k => anX7.lookup k, fun k => (saX7.lookup k).map fun i => .ref (ad i), fun k => (caX7_box B ad).lookup k)
def eX7_box (B : Nat) (ad : Nat → Nat) : xR := x_ev B (some .int) (cxX7_box B ad) cX7_box 4
set_option maxRecDepth 20000 in
theorem mX7_box : x_Met l D cA ad B yX7_box cX7_box 4 (some .int) 2 43 (eX7_box B ad) := by
  show x_Met l D cA ad B yX7_box cX7_box 4 (some .int) 2 43 (x_ev B (some .int) (cxX7_box B ad) cX7_box 4)
  refine x_sound2 (own := RX7) (cx := cxX7_box B ad) (ini := false) rfl pnX7 (vcX7 rfl) (vsX7 rfl) (vfX7 rfl) (vnX7 rfl) (vaX7 rfl) ?_ (fun h => by cases h) _ _
  intro k kd n E hk
  have hm : (k, kd, n, E) ∈ caX7_box B ad := x_look hk
  simp only [caX7_box, List.mem_cons, List.not_mem_nil, or_false, Prod.mk.injEq] at hm
  rcases hm with ⟨rfl, rfl, rfl, rfl⟩ | ⟨rfl, rfl, rfl, rfl⟩ | ⟨rfl, rfl, rfl, rfl⟩
  · exact x_cwS mX7_within xw72 xw73 xw12 xw71 ⟨by decide +kernel, by decide +kernel, by decide +kernel⟩ ⟨by decide, by decide⟩
  · exact x_cwI mX2_init rfl xw83 xw84 xw82 xw81 ⟨by decide +kernel, by decide +kernel, by decide +kernel⟩ ⟨by decide, by decide⟩
  · exact x_cwV (t := 7) mX7_addToLine rfl (by decide) rfl xw86 xw87 xw88 xw12 xw85 ⟨by decide +kernel, by decide +kernel, by decide +kernel⟩ ⟨by decide, by decide⟩
def caX7_glue (B : Nat) (ad : Nat → Nat) : List (Nat × Nat × Nat × xR) := [(56, 1, 3, eX7_within B ad), (79, 2, 4, x_n1 (eX2_init B ad)), (85, 0, 2, x_v 7 (eX7_addToLine B ad))]
def cxX7_glue (B : Nat) (ad : Nat → Nat) : xC := (fun k => flX7.lookup k, fun k => csX7.lookup k, fun k => nwX7.lookup k, fun k => anX7.lookup k, fun k => (saX7.lookup k).map fun i => .ref (ad i), fun k => (caX7_glue B ad).lookup k)
def eX7_glue (B : Nat) (ad : Nat → Nat) : xR := x_ev B (some .int) (cxX7_glue B ad) cX7_glue 6
set_option maxRecDepth 20000 in
theorem mX7_glue : x_Met l D cA ad B yX7_glue cX7_glue 6 (some .int) 2 43 (eX7_glue B ad) := by
  show x_Met l D cA ad B yX7_glue cX7_glue 6 (some .int) 2 43 (x_ev B (some .int) (cxX7_glue B ad) cX7_glue 6)
  refine x_sound2 (own := RX7) (cx := cxX7_glue B ad) (ini := false) rfl pnX7 (vcX7 rfl) (vsX7 rfl) (vfX7 rfl) (vnX7 rfl) (vaX7 rfl) ?_ (fun h => by cases h) _ _
  intro k kd n E hk
  have hm : (k, kd, n, E) ∈ caX7_glue B ad := x_look hk
  simp only [caX7_glue, List.mem_cons, List.not_mem_nil, or_false, Prod.mk.injEq] at hm
  rcases hm with ⟨rfl, rfl, rfl, rfl⟩ | ⟨rfl, rfl, rfl, rfl⟩ | ⟨rfl, rfl, rfl, rfl⟩
  · exact x_cwS mX7_within xw72 xw73 xw12 xw71 ⟨by decide +kernel, by decide +kernel, by decide +kernel⟩ ⟨by decide, by decide⟩
  · exact x_cwI mX2_init rfl xw83 xw84 xw82 xw81 ⟨by decide +kernel, by decide +kernel, by decide +kernel⟩ ⟨by decide, by decide⟩
  · exact x_cwV (t := 7) mX7_addToLine rfl (by decide) rfl xw86 xw87 xw88 xw12 xw85 ⟨by decide +kernel, by decide +kernel, by decide +kernel⟩ ⟨by decide, by decide⟩
def caX7_kern (B : Nat) (ad : Nat → Nat) : List (Nat × Nat × Nat × xR) := [(56, 1, 3, eX7_within B ad), (79, 2, 4, x_n1 (eX2_init B ad)), (85, 0, 2, x_v 7 (eX7_addToLine B ad))]
def cxX7_kern (B : Nat) (ad : Nat → Nat) : xC := (fun k => flX7.lookup k, fun k => csX7.lookup k, fun k => nwX7.lookup k, fun k => anX7.lookup k, fun k => (saX7.lookup k).map fun i => .ref (ad i), fun k => (caX7_kern B ad).lookup k)
def eX7_kern (B : Nat) (ad : Nat → Nat) : xR := x_ev B (some .int) (cxX7_kern B ad) cX7_kern 2
set_option maxRecDepth 20000 in
theorem mX7_kern : x_Met l D cA ad B yX7_kern cX7_kern 2 (some .int) 2 43 (eX7_kern B ad) := by
  show x_Met l D cA ad B yX7_kern cX7_kern 2 (some .int) 2 43 (x_ev B (some .int) (cxX7_kern B ad) cX7_kern 2)
  refine x_sound2 (own := RX7) (cx := cxX7_kern B ad) (ini := false) rfl pnX7 (vcX7 rfl) (vsX7 rfl) (vfX7 rfl) (vnX7 rfl) (vaX7 rfl) ?_ (fun h => by cases h) _ _
  intro k kd n E hk
  have hm : (k, kd, n, E) ∈ caX7_kern B ad := x_look hk
  simp only [caX7_kern, List.mem_cons, List.not_mem_nil, or_false, Prod.mk.injEq] at hm
  rcases hm with ⟨rfl, rfl, rfl, rfl⟩ | ⟨rfl, rfl, rfl, rfl⟩ | ⟨rfl, rfl, rfl, rfl⟩
  · exact x_cwS mX7_within xw72 xw73 xw12 xw71 ⟨by decide +kernel, by decide +kernel, by decide +kernel⟩ ⟨by decide, by decide⟩
  · exact x_cwI mX2_init rfl xw83 xw84 xw82 xw81 ⟨by decide +kernel, by decide +kernel, by decide +kernel⟩ ⟨by decide, by decide⟩
  · exact x_cwV (t := 7) mX7_addToLine rfl (by decide) rfl xw86 xw87 xw88 xw12 xw85 ⟨by decide +kernel, by decide +kernel, by decide +kernel⟩ ⟨by decide, by decide⟩
def caX7_penalty (B : Nat) (ad : Nat → Nat) : List (Nat × Nat × Nat × xR) := [(56, 1, 3, eX7_within B ad), (79, 2, 4, x_n1 (eX2_init B ad)), (85, 0, 2, x_v 7 (eX7_addToLine B ad))]
def cxX7_penalty (B : Nat) (ad : Nat → Nat) : xC := (fun k => flX7.lookup k, fun k => csX7.lookup k, fun k => nwX7.lookup k, fun k => anX7.lookup k, fun k => (saX7.lookup k).map fun i => .ref (ad i), fun k => (caX7_penalty B ad).lookup k)
def eX7_penalty (B : Nat) (ad : Nat → Nat) : xR := x_ev B (some .int) (cxX7_penalty B ad) cX7_penalty 2
set_option maxRecDepth 20000 in
theorem mX7_penalty : x_Met l D cA ad B yX7_penalty cX7_penalty 2 (some .int) 2 43 (eX7_penalty B ad) := by
  show x_Met l D cA ad B yX7_penalty cX7_penalty 2 (some .int) 2 43 (x_ev B (some .int) (cxX7_penalty B ad) cX7_penalty 2)
  refine x_sound2 (own := RX7) (cx := cxX7_penalty B ad) (ini := false) rfl pnX7 (vcX7 rfl) (vsX7 rfl) (vfX7 rfl) (vnX7 rfl) (vaX7 rfl) ?_ (fun h => by cases h) _ _
  intro k kd n E hk
  have hm : (k, kd, n, E) ∈ caX7_penalty B ad := x_look hk
  simp only [caX7_penalty, List.mem_cons, List.not_mem_nil, or_false, Prod.mk.injEq] at hm
  rcases hm with ⟨rfl, rfl, rfl, rfl⟩ | ⟨rfl, rfl, rfl, rfl⟩ | ⟨rfl, rfl, rfl, rfl⟩
  · exact x_cwS mX7_within xw72 xw73 xw12 xw71 ⟨by decide +kernel, by decide +kernel, by decide +kernel⟩ ⟨by decide, by decide⟩
  · exact x_cwI mX2_init rfl xw83 xw84 xw82 xw81 ⟨by decide +kernel, by decide +kernel, by decide +kernel⟩ ⟨by decide, by decide⟩
  · exact x_cwV (t := 7) mX7_addToLine rfl (by decide) rfl xw86 xw87 xw88 xw12 xw85 ⟨by decide +kernel, by decide +kernel, by decide +kernel⟩ ⟨by decide, by decide⟩
def caX7_insert (B : Nat) (ad : Nat → Nat) : List (Nat × Nat × Nat × xR) := [(56, 1, 3, eX7_within B ad), (79, 2, 4, x_n1 (eX2_init B ad)), (85, 0, 2, x_v 7 (eX7_addToLine B ad))]
def cxX7_insert (B : Nat) (ad : Nat → Nat) : xC := (fun k => flX7.lookup k, fun k => csX7.lookup k, fun k => nwX7.lookup k, fun k => anX7.lookup k, fun k => (saX7.lookup k).map fun i => .ref (ad i), fun k => (caX7_insert B ad).lookup k)
def eX7_insert (B : Nat) (ad : Nat → Nat) : xR := x_ev B (some .int) (cxX7_insert B ad) cX7_insert 5
set_option maxRecDepth 20000 in
theorem mX7_insert : x_Met l D cA ad B yX7_insert cX7_insert 5 (some .int) 2 43 (eX7_insert B ad) := by
  show x_Met l D cA ad B yX7_insert cX7_insert 5 (some .int) 2 43 (x_ev B (some .int) (cxX7_insert B ad) cX7_insert 5)
  refine x_sound2 (own := RX7) (cx := cxX7_insert B ad) (ini := false) rfl pnX7 (vcX7 rfl) (vsX7 rfl) (vfX7 rfl) (vnX7 rfl) (vaX7 rfl) ?_ (fun h => by cases h) _ _
  intro k kd n E hk
  have hm : (k, kd, n, E) ∈ caX7_insert B ad := x_look hk
  simp only [caX7_insert, List.mem_cons, List.not_mem_nil, or_false, Prod.mk.injEq] at hm
  rcases hm with ⟨rfl, rfl, rfl, rfl⟩ | ⟨rfl, rfl, rfl, rfl⟩ | ⟨rfl, rfl, rfl, rfl⟩
  · exact x_cwS mX7_within xw72 xw73 xw12 xw71 ⟨by decide +kernel, by decide +kernel, by decide +kernel⟩ ⟨by decide, by decide⟩
  · exact x_cwI mX2_init rfl xw83 xw84 xw82 xw81 ⟨by decide +kernel, by decide +kernel, by decide +kernel⟩ ⟨by decide, by decide⟩
  · exact x_cwV (t := 7) mX7_addToLine rfl (by decide) rfl xw86 xw87 xw88 xw12 xw85 ⟨by decide +kernel, by decide +kernel, by decide +kernel⟩ ⟨by decide, by decide⟩
def caX7_mark (B : Nat) (ad : Nat → Nat) : List (Nat × Nat × Nat × xR) := [(79, 2, 4, x_n1 (eX2_init B ad)), (85, 0, 2, x_v 7 (eX7_addToLine B ad))]
def cxX7_mark (B : Nat) (ad : Nat → Nat) : xC := (fun k => flX7.lookup k, fun k => csX7.lookup k, fun k => nwX7.lookup k, fun k => anX7.lookup k, fun k => (saX7.lookup k).map fun i => .ref (ad i), fun k => (caX7_mark B ad).lookup k)
def eX7_mark (B : Nat) (ad : Nat → Nat) : xR := x_ev B (some .int) (cxX7_mark B ad) cX7_mark 2
set_option maxRecDepth 20000 in
theorem mX7_mark : x_Met l D cA ad B yX7_mark cX7_mark 2 (some .int) 2 43 (eX7_mark B ad) := by
  show x_Met l D cA ad B yX7_mark cX7_mark 2 (some .int) 2 43 (x_ev B (some .int) (cxX7_mark B ad) cX7_mark 2)
  refine x_sound2 (own := RX7) (cx := cxX7_mark B ad) (ini := false) rfl pnX7 (vcX7 rfl) (vsX7 rfl) (vfX7 rfl) (vnX7 rfl) (vaX7 rfl) ?_ (fun h => by cases h) _ _
  intro k kd n E hk
  have hm : (k, kd, n, E) ∈ caX7_mark B ad := x_look hk
  simp only [caX7_mark, List.mem_cons, List.not_mem_nil, or_false, Prod.mk.injEq] at hm
  rcases hm with ⟨rfl, rfl, rfl, rfl⟩ | ⟨rfl, rfl, rfl, rfl⟩
  · exact x_cwI mX2_init rfl xw83 xw84 xw82 xw81 ⟨by decide +kernel, by decide +kernel, by decide +kernel⟩ ⟨by decide, by decide⟩
  · exact x_cwV (t := 7) mX7_addToLine rfl (by decide) rfl xw86 xw87 xw88 xw12 xw85 ⟨by decide +kernel, by decide +kernel, by decide +kernel⟩ ⟨by decide, by decide⟩
def caX7_dropFirst (B : Nat) (ad : Nat → Nat) : List (Nat × Nat × Nat × xR) := [(247, 0, 1, x_v 4 (eX4_takeFirst B ad))]
def cxX7_dropFirst (B : Nat) (ad : Nat → Nat) : xC := (fun k => flX7.lookup k, fun k => csX7.lookup k, fun k => nwX7.lookup k, fun k => anX7.lookup k, fun k => (saX7.lookup k).map fun i => .ref (ad i), fun k => (caX7_dropFirst B ad).lookup k)
def eX7_dropFirst (B : Nat) (ad : Nat → Nat) : xR := x_ev B none (cxX7_dropFirst B ad) cX7_dropFirst 2
set_option maxRecDepth 20000 in
theorem mX7_dropFirst : x_Met l D cA ad B yX7_dropFirst cX7_dropFirst 2 none 2 42 (eX7_dropFirst B ad) := by
  show x_Met l D cA ad B yX7_dropFirst cX7_dropFirst 2 none 2 42 (x_ev B none (cxX7_dropFirst B ad) cX7_dropFirst 2)
  refine x_sound2 (own := RX7) (cx := cxX7_dropFirst B ad) (ini := false) rfl pnX7 (vcX7 rfl) (vsX7 rfl) (vfX7 rfl) (vnX7 rfl) (vaX7 rfl) ?_ (fun h => by cases h) _ _
  intro k kd n E hk
  have hm : (k, kd, n, E) ∈ caX7_dropFirst B ad := x_look hk
  simp only [caX7_dropFirst, List.mem_cons, List.not_mem_nil, or_false, Prod.mk.injEq] at hm
  rcases hm with ⟨rfl, rfl, rfl, rfl⟩
  · exact x_cwV (t := 4) mX4_takeFirst rfl (by decide) rfl xw90 xw91 xw92 xw56 xw89 ⟨by decide +kernel, by decide +kernel, by decide +kernel⟩ ⟨by decide, by decide⟩
def caX7_endedPage (B : Nat) (ad : Nat → Nat) : List (Nat × Nat × Nat × xR) := [(56, 1, 3, eX7_within B ad)]
def cxX7_endedPage (B : Nat) (ad : Nat → Nat) : xC := (fun k => flX7.lookup k, fun k => csX7.lookup k, fun k => nwX7.lookup k, fun k => anX7.lookup k, fun k => (saX7.lookup k).map fun i => .ref (ad i), fun k => (caX7_endedPage B ad).lookup k)
def eX7_endedPage (B : Nat) (ad : Nat → Nat) : xR := x_ev B (some (.object "PageBuilder$Page")) (cxX7_endedPage B ad) cX7_endedPage 2
set_option maxRecDepth 20000 in
theorem mX7_endedPage : x_Met l D cA ad B yX7_endedPage cX7_endedPage 2 (some (.object "PageBuilder$Page")) 1 22 (eX7_endedPage B ad) := by
  show x_Met l D cA ad B yX7_endedPage cX7_endedPage 2 (some (.object "PageBuilder$Page")) 1 22 (x_ev B (some (.object "PageBuilder$Page")) (cxX7_endedPage B ad) cX7_endedPage 2)
  refine x_sound2 (own := RX7) (cx := cxX7_endedPage B ad) (ini := false) rfl pnX7 (vcX7 rfl) (vsX7 rfl) (vfX7 rfl) (vnX7 rfl) (vaX7 rfl) ?_ (fun h => by cases h) _ _
  intro k kd n E hk
  have hm : (k, kd, n, E) ∈ caX7_endedPage B ad := x_look hk
  simp only [caX7_endedPage, List.mem_cons, List.not_mem_nil, or_false, Prod.mk.injEq] at hm
  rcases hm with ⟨rfl, rfl, rfl, rfl⟩
  · exact x_cwS mX7_within xw72 xw73 xw12 xw71 ⟨by decide +kernel, by decide +kernel, by decide +kernel⟩ ⟨by decide, by decide⟩
def caX7_putBackFromBreak (B : Nat) (ad : Nat → Nat) : List (Nat × Nat × Nat × xR) := [(269, 0, 2, x_v 4 (eX4_addFirst B ad)), (183, 0, 2, x_v 4 (eX4_look B ad)), (230, 0, 1, x_v 7 (eX7_dropFirst B ad))]
def cxX7_putBackFromBreak (B : Nat) (ad : Nat → Nat) : xC := (fun k => flX7.lookup k, fun k => csX7.lookup k, fun k => nwX7.lookup k, fun k => anX7.lookup k, fun k => (saX7.lookup k).map fun i => .ref (ad i), fun k => (caX7_putBackFromBreak B ad).lookup k)
def eX7_putBackFromBreak (B : Nat) (ad : Nat → Nat) : xR := x_ev B none (cxX7_putBackFromBreak B ad) cX7_putBackFromBreak 2
set_option maxRecDepth 20000 in
theorem mX7_putBackFromBreak : x_Met l D cA ad B yX7_putBackFromBreak cX7_putBackFromBreak 2 none 3 63 (eX7_putBackFromBreak B ad) := by
  show x_Met l D cA ad B yX7_putBackFromBreak cX7_putBackFromBreak 2 none 3 63 (x_ev B none (cxX7_putBackFromBreak B ad) cX7_putBackFromBreak 2)
  refine x_sound2 (own := RX7) (cx := cxX7_putBackFromBreak B ad) (ini := false) rfl pnX7 (vcX7 rfl) (vsX7 rfl) (vfX7 rfl) (vnX7 rfl) (vaX7 rfl) ?_ (fun h => by cases h) _ _
  intro k kd n E hk
  have hm : (k, kd, n, E) ∈ caX7_putBackFromBreak B ad := x_look hk
  simp only [caX7_putBackFromBreak, List.mem_cons, List.not_mem_nil, or_false, Prod.mk.injEq] at hm
  rcases hm with ⟨rfl, rfl, rfl, rfl⟩ | ⟨rfl, rfl, rfl, rfl⟩ | ⟨rfl, rfl, rfl, rfl⟩
  · exact x_cwV (t := 4) mX4_addFirst rfl (by decide) rfl xw94 xw95 xw96 xw56 xw93 ⟨by decide +kernel, by decide +kernel, by decide +kernel⟩ ⟨by decide, by decide⟩
  · exact x_cwV (t := 4) mX4_look rfl (by decide) rfl xw97 xw58 xw59 xw56 xw55 ⟨by decide +kernel, by decide +kernel, by decide +kernel⟩ ⟨by decide, by decide⟩
  · exact x_cwV (t := 7) mX7_dropFirst rfl (by decide) rfl xw99 xw100 xw101 xw12 xw98 ⟨by decide +kernel, by decide +kernel, by decide +kernel⟩ ⟨by decide, by decide⟩
def caX7_putBackInserts (B : Nat) (ad : Nat → Nat) : List (Nat × Nat × Nat × xR) := [(269, 0, 2, x_v 4 (eX4_addFirst B ad))]
def cxX7_putBackInserts (B : Nat) (ad : Nat → Nat) : xC := (fun k => flX7.lookup k, fun k => csX7.lookup k, fun k => nwX7.lookup k, fun k => anX7.lookup k, fun k => (saX7.lookup k).map fun i => .ref (ad i), fun k => (caX7_putBackInserts B ad).lookup k)
def eX7_putBackInserts (B : Nat) (ad : Nat → Nat) : xR := x_ev B none (cxX7_putBackInserts B ad) cX7_putBackInserts 3
set_option maxRecDepth 20000 in
theorem mX7_putBackInserts : x_Met l D cA ad B yX7_putBackInserts cX7_putBackInserts 3 none 1 21 (eX7_putBackInserts B ad) := by
  show x_Met l D cA ad B yX7_putBackInserts cX7_putBackInserts 3 none 1 21 (x_ev B none (cxX7_putBackInserts B ad) cX7_putBackInserts 3)
  refine x_sound2 (own := RX7) (cx := cxX7_putBackInserts B ad) (ini := false) rfl pnX7 (vcX7 rfl) (vsX7 rfl) (vfX7 rfl) (vnX7 rfl) (vaX7 rfl) ?_ (fun h => by cases h) _ _
  intro k kd n E hk
  have hm : (k, kd, n, E) ∈ caX7_putBackInserts B ad := x_look hk
  simp only [caX7_putBackInserts, List.mem_cons, List.not_mem_nil, or_false, Prod.mk.injEq] at hm
  rcases hm with ⟨rfl, rfl, rfl, rfl⟩
  · exact x_cwV (t := 4) mX4_addFirst rfl (by decide) rfl xw94 xw95 xw96 xw56 xw93 ⟨by decide +kernel, by decide +kernel, by decide +kernel⟩ ⟨by decide, by decide⟩
end XCT
