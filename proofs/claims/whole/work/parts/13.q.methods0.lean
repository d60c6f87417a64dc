/-! METHODS as relations, and their contracts -/
section XCT
variable {l : Launch} {D : va_G} {cA ad : Nat → Nat} {B : Nat}
def caX5_init (B : Nat) (ad : Nat → Nat) : List (Nat × Nat × Nat × xR) := [(3, 2, 1, x_obj)]
def cxX5_init (B : Nat) (ad : Nat → Nat) : xC := (fun k => flX5i.lookup k, fun k => csX5.lookup k, fun k => nwX5.lookup k, fun k => anX5.lookup k, fun k => (saX5.lookup k).map fun i => .ref (ad i), fun k => (caX5_init B ad).lookup k)
def eX5_init (B : Nat) (ad : Nat → Nat) : xR := x_ev B none (cxX5_init B ad) cX5_init 1
set_option maxRecDepth 20000 in
theorem mX5_init : x_Met l D cA ad B yX5_init cX5_init 1 none 1 20 (eX5_init B ad) := by
  show x_Met l D cA ad B yX5_init cX5_init 1 none 1 20 (x_ev B none (cxX5_init B ad) cX5_init 1)
  refine x_sound2 (own := RX5) (cx := cxX5_init B ad) (ini := true) rfl pnX5 (vcX5 rfl) (vsX5 rfl) (vfX5i rfl) (vnX5 rfl) (vaX5 rfl) ?_ (fun _ => rfl) _ _
  intro k kd n E hk
  have hm : (k, kd, n, E) ∈ caX5_init B ad := x_look hk
  simp only [caX5_init, List.mem_cons, List.not_mem_nil, or_false, Prod.mk.injEq] at hm
  rcases hm with ⟨rfl, rfl, rfl, rfl⟩
  · exact x_cwO xw0 xw1 xw2 ⟨by decide, by decide⟩
def caX0_init (B : Nat) (ad : Nat → Nat) : List (Nat × Nat × Nat × xR) := [(3, 2, 1, x_obj), (23, 2, 1, x_n1 (eX5_init B ad))]
def cxX0_init (B : Nat) (ad : Nat → Nat) : xC := (fun k => flX0i.lookup k, fun k => csX0.lookup k, fun k => nwX0.lookup k, fun k => anX0.lookup k, fun k => (saX0.lookup k).map fun i => .ref (ad i), fun k => (caX0_init B ad).lookup k)
def eX0_init (B : Nat) (ad : Nat → Nat) : xR := x_ev B none (cxX0_init B ad) cX0_init 1
set_option maxRecDepth 20000 in
theorem mX0_init : x_Met l D cA ad B yX0_init cX0_init 1 none 2 40 (eX0_init B ad) := by
  show x_Met l D cA ad B yX0_init cX0_init 1 none 2 40 (x_ev B none (cxX0_init B ad) cX0_init 1)
  refine x_sound2 (own := RX0) (cx := cxX0_init B ad) (ini := true) rfl pnX0 (vcX0 rfl) (vsX0 rfl) (vfX0i rfl) (vnX0 rfl) (vaX0 rfl) ?_ (fun _ => rfl) _ _
  intro k kd n E hk
  have hm : (k, kd, n, E) ∈ caX0_init B ad := x_look hk
  simp only [caX0_init, List.mem_cons, List.not_mem_nil, or_false, Prod.mk.injEq] at hm
  rcases hm with ⟨rfl, rfl, rfl, rfl⟩ | ⟨rfl, rfl, rfl, rfl⟩
  · exact x_cwO xw3 xw1 xw2 ⟨by decide, by decide⟩
  · exact x_cwIN (host := "PageBuilder") mX5_init rfl (by unfold x_nest; exact List.mem_filter.mpr ⟨by decide +kernel, rfl⟩) xw6 xw5 xw4 ⟨by decide +kernel, by decide +kernel, by decide +kernel⟩ ⟨by decide, by decide⟩
def caX5_clear (B : Nat) (ad : Nat → Nat) : List (Nat × Nat × Nat × xR) := []
def cxX5_clear (B : Nat) (ad : Nat → Nat) : xC := (fun k => flX5.lookup k, fun k => csX5.lookup k, fun k => nwX5.lookup k, fun k => anX5.lookup k, fun k => (saX5.lookup k).map fun i => .ref (ad i), fun k => (caX5_clear B ad).lookup k)
def eX5_clear (B : Nat) (ad : Nat → Nat) : xR := x_ev B none (cxX5_clear B ad) cX5_clear 4
set_option maxRecDepth 20000 in
theorem mX5_clear : x_Met l D cA ad B yX5_clear cX5_clear 4 none 0 0 (eX5_clear B ad) := by
  show x_Met l D cA ad B yX5_clear cX5_clear 4 none 0 0 (x_ev B none (cxX5_clear B ad) cX5_clear 4)
  refine x_sound2 (own := RX5) (cx := cxX5_clear B ad) (ini := false) rfl pnX5 (vcX5 rfl) (vsX5 rfl) (vfX5 rfl) (vnX5 rfl) (vaX5 rfl) ?_ (fun h => by cases h) _ _
  intro k kd n E hk
  have hm : (k, kd, n, E) ∈ caX5_clear B ad := x_look hk
  simp only [caX5_clear, List.mem_cons, List.not_mem_nil, or_false, Prod.mk.injEq] at hm
def caX0_begin (B : Nat) (ad : Nat → Nat) : List (Nat × Nat × Nat × xR) := [(53, 0, 2, x_v 5 (eX5_clear B ad))]
def cxX0_begin (B : Nat) (ad : Nat → Nat) : xC := (fun k => flX0.lookup k, fun k => csX0.lookup k, fun k => nwX0.lookup k, fun k => anX0.lookup k, fun k => (saX0.lookup k).map fun i => .ref (ad i), fun k => (caX0_begin B ad).lookup k)
def eX0_begin (B : Nat) (ad : Nat → Nat) : xR := x_ev B none (cxX0_begin B ad) cX0_begin 5
set_option maxRecDepth 20000 in
theorem mX0_begin : x_Met l D cA ad B yX0_begin cX0_begin 5 none 1 23 (eX0_begin B ad) := by
  show x_Met l D cA ad B yX0_begin cX0_begin 5 none 1 23 (x_ev B none (cxX0_begin B ad) cX0_begin 5)
  refine x_sound2 (own := RX0) (cx := cxX0_begin B ad) (ini := false) rfl pnX0 (vcX0 rfl) (vsX0 rfl) (vfX0 rfl) (vnX0 rfl) (vaX0 rfl) ?_ (fun h => by cases h) _ _
  intro k kd n E hk
  have hm : (k, kd, n, E) ∈ caX0_begin B ad := x_look hk
  simp only [caX0_begin, List.mem_cons, List.not_mem_nil, or_false, Prod.mk.injEq] at hm
  rcases hm with ⟨rfl, rfl, rfl, rfl⟩
  · exact x_cwV (t := 5) mX5_clear rfl (by decide) rfl xw8 xw9 xw10 xw5 xw7 ⟨by decide +kernel, by decide +kernel, by decide +kernel⟩ ⟨by decide, by decide⟩
def caX0_mayBreakBefore (B : Nat) (ad : Nat → Nat) : List (Nat × Nat × Nat × xR) := []
def cxX0_mayBreakBefore (B : Nat) (ad : Nat → Nat) : xC := (fun k => flX0.lookup k, fun k => csX0.lookup k, fun k => nwX0.lookup k, fun k => anX0.lookup k, fun k => (saX0.lookup k).map fun i => .ref (ad i), fun k => (caX0_mayBreakBefore B ad).lookup k)
def eX0_mayBreakBefore (B : Nat) (ad : Nat → Nat) : xR := x_ev B (some .boolean) (cxX0_mayBreakBefore B ad) cX0_mayBreakBefore 3
set_option maxRecDepth 20000 in
theorem mX0_mayBreakBefore : x_Met l D cA ad B yX0_mayBreakBefore cX0_mayBreakBefore 3 (some .boolean) 0 0 (eX0_mayBreakBefore B ad) := by
  show x_Met l D cA ad B yX0_mayBreakBefore cX0_mayBreakBefore 3 (some .boolean) 0 0 (x_ev B (some .boolean) (cxX0_mayBreakBefore B ad) cX0_mayBreakBefore 3)
  refine x_sound2 (own := RX0) (cx := cxX0_mayBreakBefore B ad) (ini := false) rfl pnX0 (vcX0 rfl) (vsX0 rfl) (vfX0 rfl) (vnX0 rfl) (vaX0 rfl) ?_ (fun h => by cases h) _ _
  intro k kd n E hk
  have hm : (k, kd, n, E) ∈ caX0_mayBreakBefore B ad := x_look hk
  simp only [caX0_mayBreakBefore, List.mem_cons, List.not_mem_nil, or_false, Prod.mk.injEq] at hm
def caX7_badnessOf (B : Nat) (ad : Nat → Nat) : List (Nat × Nat × Nat × xR) := []
def cxX7_badnessOf (B : Nat) (ad : Nat → Nat) : xC := (fun k => flX7.lookup k, fun k => csX7.lookup k, fun k => nwX7.lookup k, fun k => anX7.lookup k, fun k => (saX7.lookup k).map fun i => .ref (ad i), fun k => (caX7_badnessOf B ad).lookup k)
def eX7_badnessOf (B : Nat) (ad : Nat → Nat) : xR := x_ev B (some .int) (cxX7_badnessOf B ad) cX7_badnessOf 6
set_option maxRecDepth 20000 in
theorem mX7_badnessOf : x_Met l D cA ad B yX7_badnessOf cX7_badnessOf 6 (some .int) 0 0 (eX7_badnessOf B ad) := by
  show x_Met l D cA ad B yX7_badnessOf cX7_badnessOf 6 (some .int) 0 0 (x_ev B (some .int) (cxX7_badnessOf B ad) cX7_badnessOf 6)
  refine x_sound2 (own := RX7) (cx := cxX7_badnessOf B ad) (ini := false) rfl pnX7 (vcX7 rfl) (vsX7 rfl) (vfX7 rfl) (vnX7 rfl) (vaX7 rfl) ?_ (fun h => by cases h) _ _
  intro k kd n E hk
  have hm : (k, kd, n, E) ∈ caX7_badnessOf B ad := x_look hk
  simp only [caX7_badnessOf, List.mem_cons, List.not_mem_nil, or_false, Prod.mk.injEq] at hm
def caX5_badnessHere (B : Nat) (ad : Nat → Nat) : List (Nat × Nat × Nat × xR) := [(34, 1, 2, eX7_badnessOf B ad)]
def cxX5_badnessHere (B : Nat) (ad : Nat → Nat) : xC := (fun k => flX5.lookup k, fun k => csX5.lookup k, fun k => nwX5.lookup k, fun k => anX5.lookup k, fun k => (saX5.lookup k).map fun i => .ref (ad i), fun k => (caX5_badnessHere B ad).lookup k)
def eX5_badnessHere (B : Nat) (ad : Nat → Nat) : xR := x_ev B (some .int) (cxX5_badnessHere B ad) cX5_badnessHere 3
set_option maxRecDepth 20000 in
theorem mX5_badnessHere : x_Met l D cA ad B yX5_badnessHere cX5_badnessHere 3 (some .int) 1 25 (eX5_badnessHere B ad) := by
  show x_Met l D cA ad B yX5_badnessHere cX5_badnessHere 3 (some .int) 1 25 (x_ev B (some .int) (cxX5_badnessHere B ad) cX5_badnessHere 3)
  refine x_sound2 (own := RX5) (cx := cxX5_badnessHere B ad) (ini := false) rfl pnX5 (vcX5 rfl) (vsX5 rfl) (vfX5 rfl) (vnX5 rfl) (vaX5 rfl) ?_ (fun h => by cases h) _ _
  intro k kd n E hk
  have hm : (k, kd, n, E) ∈ caX5_badnessHere B ad := x_look hk
  simp only [caX5_badnessHere, List.mem_cons, List.not_mem_nil, or_false, Prod.mk.injEq] at hm
  rcases hm with ⟨rfl, rfl, rfl, rfl⟩
  · exact x_cwSN (host := "PageBuilder") mX7_badnessOf (by unfold x_nest; exact List.mem_filter.mpr ⟨by decide +kernel, rfl⟩) xw13 xw12 xw11 ⟨by decide +kernel, by decide +kernel, by decide +kernel⟩ ⟨by decide, by decide⟩
def caX0_costAt (B : Nat) (ad : Nat → Nat) : List (Nat × Nat × Nat × xR) := [(100, 0, 1, x_v 5 (eX5_badnessHere B ad))]
def cxX0_costAt (B : Nat) (ad : Nat → Nat) : xC := (fun k => flX0.lookup k, fun k => csX0.lookup k, fun k => nwX0.lookup k, fun k => anX0.lookup k, fun k => (saX0.lookup k).map fun i => .ref (ad i), fun k => (caX0_costAt B ad).lookup k)
def eX0_costAt (B : Nat) (ad : Nat → Nat) : xR := x_ev B (some .long) (cxX0_costAt B ad) cX0_costAt 3
set_option maxRecDepth 20000 in
theorem mX0_costAt : x_Met l D cA ad B yX0_costAt cX0_costAt 3 (some .long) 2 47 (eX0_costAt B ad) := by
  show x_Met l D cA ad B yX0_costAt cX0_costAt 3 (some .long) 2 47 (x_ev B (some .long) (cxX0_costAt B ad) cX0_costAt 3)
  refine x_sound2 (own := RX0) (cx := cxX0_costAt B ad) (ini := false) rfl pnX0 (vcX0 rfl) (vsX0 rfl) (vfX0 rfl) (vnX0 rfl) (vaX0 rfl) ?_ (fun h => by cases h) _ _
  intro k kd n E hk
  have hm : (k, kd, n, E) ∈ caX0_costAt B ad := x_look hk
  simp only [caX0_costAt, List.mem_cons, List.not_mem_nil, or_false, Prod.mk.injEq] at hm
  rcases hm with ⟨rfl, rfl, rfl, rfl⟩
  · exact x_cwV (t := 5) mX5_badnessHere rfl (by decide) rfl xw15 xw16 xw17 xw5 xw14 ⟨by decide +kernel, by decide +kernel, by decide +kernel⟩ ⟨by decide, by decide⟩
def caX5_copyFrom (B : Nat) (ad : Nat → Nat) : List (Nat × Nat × Nat × xR) := []
def cxX5_copyFrom (B : Nat) (ad : Nat → Nat) : xC := (fun k => flX5.lookup k, fun k => csX5.lookup k, fun k => nwX5.lookup k, fun k => anX5.lookup k, fun k => (saX5.lookup k).map fun i => .ref (ad i), fun k => (caX5_copyFrom B ad).lookup k)
def eX5_copyFrom (B : Nat) (ad : Nat → Nat) : xR := x_ev B none (cxX5_copyFrom B ad) cX5_copyFrom 3
set_option maxRecDepth 20000 in
theorem mX5_copyFrom : x_Met l D cA ad B yX5_copyFrom cX5_copyFrom 3 none 0 0 (eX5_copyFrom B ad) := by
  show x_Met l D cA ad B yX5_copyFrom cX5_copyFrom 3 none 0 0 (x_ev B none (cxX5_copyFrom B ad) cX5_copyFrom 3)
  refine x_sound2 (own := RX5) (cx := cxX5_copyFrom B ad) (ini := false) rfl pnX5 (vcX5 rfl) (vsX5 rfl) (vfX5 rfl) (vnX5 rfl) (vaX5 rfl) ?_ (fun h => by cases h) _ _
  intro k kd n E hk
  have hm : (k, kd, n, E) ∈ caX5_copyFrom B ad := x_look hk
  simp only [caX5_copyFrom, List.mem_cons, List.not_mem_nil, or_false, Prod.mk.injEq] at hm
def caX0_endsAt (B : Nat) (ad : Nat → Nat) : List (Nat × Nat × Nat × xR) := [(92, 0, 2, x_v 1 (eX0_costAt B ad)), (96, 0, 2, x_v 5 (eX5_copyFrom B ad))]
def cxX0_endsAt (B : Nat) (ad : Nat → Nat) : xC := (fun k => flX0.lookup k, fun k => csX0.lookup k, fun k => nwX0.lookup k, fun k => anX0.lookup k, fun k => (saX0.lookup k).map fun i => .ref (ad i), fun k => (caX0_endsAt B ad).lookup k)
def eX0_endsAt (B : Nat) (ad : Nat → Nat) : xR := x_ev B (some .boolean) (cxX0_endsAt B ad) cX0_endsAt 4
set_option maxRecDepth 20000 in
theorem mX0_endsAt : x_Met l D cA ad B yX0_endsAt cX0_endsAt 4 (some .boolean) 3 69 (eX0_endsAt B ad) := by
  show x_Met l D cA ad B yX0_endsAt cX0_endsAt 4 (some .boolean) 3 69 (x_ev B (some .boolean) (cxX0_endsAt B ad) cX0_endsAt 4)
  refine x_sound2 (own := RX0) (cx := cxX0_endsAt B ad) (ini := false) rfl pnX0 (vcX0 rfl) (vsX0 rfl) (vfX0 rfl) (vnX0 rfl) (vaX0 rfl) ?_ (fun h => by cases h) _ _
  intro k kd n E hk
  have hm : (k, kd, n, E) ∈ caX0_endsAt B ad := x_look hk
  simp only [caX0_endsAt, List.mem_cons, List.not_mem_nil, or_false, Prod.mk.injEq] at hm
  rcases hm with ⟨rfl, rfl, rfl, rfl⟩ | ⟨rfl, rfl, rfl, rfl⟩
  · exact x_cwV (t := 1) mX0_costAt rfl (by decide) rfl xw20 xw21 xw22 xw19 xw18 ⟨by decide +kernel, by decide +kernel, by decide +kernel⟩ ⟨by decide, by decide⟩
  · exact x_cwV (t := 5) mX5_copyFrom rfl (by decide) rfl xw24 xw25 xw26 xw5 xw23 ⟨by decide +kernel, by decide +kernel, by decide +kernel⟩ ⟨by decide, by decide⟩
def caX1_byFactor (B : Nat) (ad : Nat → Nat) : List (Nat × Nat × Nat × xR) := []
def cxX1_byFactor (B : Nat) (ad : Nat → Nat) : xC := (fun k => flX1.lookup k, fun k => csX1.lookup k, fun k => nwX1.lookup k, fun k => anX1.lookup k, fun k => (saX1.lookup k).map fun i => .ref (ad i), fun k => (caX1_byFactor B ad).lookup k)
def eX1_byFactor (B : Nat) (ad : Nat → Nat) : xR := x_ev B (some .long) (cxX1_byFactor B ad) cX1_byFactor 3
set_option maxRecDepth 20000 in
theorem mX1_byFactor : x_Met l D cA ad B yX1_byFactor cX1_byFactor 3 (some .long) 0 0 (eX1_byFactor B ad) := by
  show x_Met l D cA ad B yX1_byFactor cX1_byFactor 3 (some .long) 0 0 (x_ev B (some .long) (cxX1_byFactor B ad) cX1_byFactor 3)
  refine x_sound2 (own := RX1) (cx := cxX1_byFactor B ad) (ini := false) rfl pnX1 (vcX1 rfl) (vsX1 rfl) (vfX1 rfl) (vnX1 rfl) (vaX1 rfl) ?_ (fun h => by cases h) _ _
  intro k kd n E hk
  have hm : (k, kd, n, E) ∈ caX1_byFactor B ad := x_look hk
  simp only [caX1_byFactor, List.mem_cons, List.not_mem_nil, or_false, Prod.mk.injEq] at hm
def caX0_partThatFits (B : Nat) (ad : Nat → Nat) : List (Nat × Nat × Nat × xR) := [(165, 0, 2, x_v 2 (eX1_byFactor B ad)), (183, 1, 2, x_min)]
def cxX0_partThatFits (B : Nat) (ad : Nat → Nat) : xC := (fun k => flX0.lookup k, fun k => csX0.lookup k, fun k => nwX0.lookup k, fun k => anX0.lookup k, fun k => (saX0.lookup k).map fun i => .ref (ad i), fun k => (caX0_partThatFits B ad).lookup k)
def eX0_partThatFits (B : Nat) (ad : Nat → Nat) : xR := x_ev B (some .int) (cxX0_partThatFits B ad) cX0_partThatFits 11
set_option maxRecDepth 20000 in
theorem mX0_partThatFits : x_Met l D cA ad B yX0_partThatFits cX0_partThatFits 11 (some .int) 1 23 (eX0_partThatFits B ad) := by
  show x_Met l D cA ad B yX0_partThatFits cX0_partThatFits 11 (some .int) 1 23 (x_ev B (some .int) (cxX0_partThatFits B ad) cX0_partThatFits 11)
  refine x_sound2 (own := RX0) (cx := cxX0_partThatFits B ad) (ini := false) rfl pnX0 (vcX0 rfl) (vsX0 rfl) (vfX0 rfl) (vnX0 rfl) (vaX0 rfl) ?_ (fun h => by cases h) _ _
  intro k kd n E hk
  have hm : (k, kd, n, E) ∈ caX0_partThatFits B ad := x_look hk
  simp only [caX0_partThatFits, List.mem_cons, List.not_mem_nil, or_false, Prod.mk.injEq] at hm
  rcases hm with ⟨rfl, rfl, rfl, rfl⟩ | ⟨rfl, rfl, rfl, rfl⟩
  · exact x_cwV (t := 2) mX1_byFactor rfl (by decide) rfl xw29 xw30 xw31 xw28 xw27 ⟨by decide +kernel, by decide +kernel, by decide +kernel⟩ ⟨by decide, by decide⟩
  · exact x_cwM xw32 xw33 xw34 xw35 ⟨by decide, by decide⟩
def caX0_putInsert (B : Nat) (ad : Nat → Nat) : List (Nat × Nat × Nat × xR) := [(159, 0, 3, x_v 1 (eX0_partThatFits B ad)), (165, 0, 2, x_v 2 (eX1_byFactor B ad))]
def cxX0_putInsert (B : Nat) (ad : Nat → Nat) : xC := (fun k => flX0.lookup k, fun k => csX0.lookup k, fun k => nwX0.lookup k, fun k => anX0.lookup k, fun k => (saX0.lookup k).map fun i => .ref (ad i), fun k => (caX0_putInsert B ad).lookup k)
def eX0_putInsert (B : Nat) (ad : Nat → Nat) : xR := x_ev B (some .int) (cxX0_putInsert B ad) cX0_putInsert 4
set_option maxRecDepth 20000 in
theorem mX0_putInsert : x_Met l D cA ad B yX0_putInsert cX0_putInsert 4 (some .int) 2 53 (eX0_putInsert B ad) := by
  show x_Met l D cA ad B yX0_putInsert cX0_putInsert 4 (some .int) 2 53 (x_ev B (some .int) (cxX0_putInsert B ad) cX0_putInsert 4)
  refine x_sound2 (own := RX0) (cx := cxX0_putInsert B ad) (ini := false) rfl pnX0 (vcX0 rfl) (vsX0 rfl) (vfX0 rfl) (vnX0 rfl) (vaX0 rfl) ?_ (fun h => by cases h) _ _
  intro k kd n E hk
  have hm : (k, kd, n, E) ∈ caX0_putInsert B ad := x_look hk
  simp only [caX0_putInsert, List.mem_cons, List.not_mem_nil, or_false, Prod.mk.injEq] at hm
  rcases hm with ⟨rfl, rfl, rfl, rfl⟩ | ⟨rfl, rfl, rfl, rfl⟩
  · exact x_cwV (t := 1) mX0_partThatFits rfl (by decide) rfl xw37 xw38 xw39 xw19 xw36 ⟨by decide +kernel, by decide +kernel, by decide +kernel⟩ ⟨by decide, by decide⟩
  · exact x_cwV (t := 2) mX1_byFactor rfl (by decide) rfl xw29 xw30 xw31 xw28 xw27 ⟨by decide +kernel, by decide +kernel, by decide +kernel⟩ ⟨by decide, by decide⟩
def caX5_grow (B : Nat) (ad : Nat → Nat) : List (Nat × Nat × Nat × xR) := []
def cxX5_grow (B : Nat) (ad : Nat → Nat) : xC := (fun k => flX5.lookup k, fun k => csX5.lookup k, fun k => nwX5.lookup k, fun k => anX5.lookup k, fun k => (saX5.lookup k).map fun i => .ref (ad i), fun k => (caX5_grow B ad).lookup k)
def eX5_grow (B : Nat) (ad : Nat → Nat) : xR := x_ev B none (cxX5_grow B ad) cX5_grow 7
set_option maxRecDepth 20000 in
theorem mX5_grow : x_Met l D cA ad B yX5_grow cX5_grow 7 none 0 0 (eX5_grow B ad) := by
  show x_Met l D cA ad B yX5_grow cX5_grow 7 none 0 0 (x_ev B none (cxX5_grow B ad) cX5_grow 7)
  refine x_sound2 (own := RX5) (cx := cxX5_grow B ad) (ini := false) rfl pnX5 (vcX5 rfl) (vsX5 rfl) (vfX5 rfl) (vnX5 rfl) (vaX5 rfl) ?_ (fun h => by cases h) _ _
  intro k kd n E hk
  have hm : (k, kd, n, E) ∈ caX5_grow B ad := x_look hk
  simp only [caX5_grow, List.mem_cons, List.not_mem_nil, or_false, Prod.mk.injEq] at hm
def caX0_putBox (B : Nat) (ad : Nat → Nat) : List (Nat × Nat × Nat × xR) := [(124, 0, 4, x_v 5 (eX5_grow B ad))]
def cxX0_putBox (B : Nat) (ad : Nat → Nat) : xC := (fun k => flX0.lookup k, fun k => csX0.lookup k, fun k => nwX0.lookup k, fun k => anX0.lookup k, fun k => (saX0.lookup k).map fun i => .ref (ad i), fun k => (caX0_putBox B ad).lookup k)
def eX0_putBox (B : Nat) (ad : Nat → Nat) : xR := x_ev B none (cxX0_putBox B ad) cX0_putBox 2
set_option maxRecDepth 20000 in
theorem mX0_putBox : x_Met l D cA ad B yX0_putBox cX0_putBox 2 none 1 26 (eX0_putBox B ad) := by
  show x_Met l D cA ad B yX0_putBox cX0_putBox 2 none 1 26 (x_ev B none (cxX0_putBox B ad) cX0_putBox 2)
  refine x_sound2 (own := RX0) (cx := cxX0_putBox B ad) (ini := false) rfl pnX0 (vcX0 rfl) (vsX0 rfl) (vfX0 rfl) (vnX0 rfl) (vaX0 rfl) ?_ (fun h => by cases h) _ _
  intro k kd n E hk
  have hm : (k, kd, n, E) ∈ caX0_putBox B ad := x_look hk
  simp only [caX0_putBox, List.mem_cons, List.not_mem_nil, or_false, Prod.mk.injEq] at hm
  rcases hm with ⟨rfl, rfl, rfl, rfl⟩
  · exact x_cwV (t := 5) mX5_grow rfl (by decide) rfl xw41 xw42 xw43 xw5 xw40 ⟨by decide +kernel, by decide +kernel, by decide +kernel⟩ ⟨by decide, by decide⟩
def caX0_put (B : Nat) (ad : Nat → Nat) : List (Nat × Nat × Nat × xR) := [(113, 0, 3, x_v 1 (eX0_putInsert B ad)), (120, 0, 2, x_v 1 (eX0_putBox B ad)), (124, 0, 4, x_v 5 (eX5_grow B ad))]
def cxX0_put (B : Nat) (ad : Nat → Nat) : xC := (fun k => flX0.lookup k, fun k => csX0.lookup k, fun k => nwX0.lookup k, fun k => anX0.lookup k, fun k => (saX0.lookup k).map fun i => .ref (ad i), fun k => (caX0_put B ad).lookup k)
def eX0_put (B : Nat) (ad : Nat → Nat) : xR := x_ev B none (cxX0_put B ad) cX0_put 2
set_option maxRecDepth 20000 in
theorem mX0_put : x_Met l D cA ad B yX0_put cX0_put 2 none 3 76 (eX0_put B ad) := by
  show x_Met l D cA ad B yX0_put cX0_put 2 none 3 76 (x_ev B none (cxX0_put B ad) cX0_put 2)
  refine x_sound2 (own := RX0) (cx := cxX0_put B ad) (ini := false) rfl pnX0 (vcX0 rfl) (vsX0 rfl) (vfX0 rfl) (vnX0 rfl) (vaX0 rfl) ?_ (fun h => by cases h) _ _
  intro k kd n E hk
  have hm : (k, kd, n, E) ∈ caX0_put B ad := x_look hk
  simp only [caX0_put, List.mem_cons, List.not_mem_nil, or_false, Prod.mk.injEq] at hm
  rcases hm with ⟨rfl, rfl, rfl, rfl⟩ | ⟨rfl, rfl, rfl, rfl⟩ | ⟨rfl, rfl, rfl, rfl⟩
  · exact x_cwV (t := 1) mX0_putInsert rfl (by decide) rfl xw45 xw46 xw47 xw19 xw44 ⟨by decide +kernel, by decide +kernel, by decide +kernel⟩ ⟨by decide, by decide⟩
  · exact x_cwV (t := 1) mX0_putBox rfl (by decide) rfl xw49 xw50 xw51 xw19 xw48 ⟨by decide +kernel, by decide +kernel, by decide +kernel⟩ ⟨by decide, by decide⟩
  · exact x_cwV (t := 5) mX5_grow rfl (by decide) rfl xw41 xw42 xw43 xw5 xw40 ⟨by decide +kernel, by decide +kernel, by decide +kernel⟩ ⟨by decide, by decide⟩
def caX1_init (B : Nat) (ad : Nat → Nat) : List (Nat × Nat × Nat × xR) := [(1, 2, 1, x_obj)]
def cxX1_init (B : Nat) (ad : Nat → Nat) : xC := (fun k => flX1i.lookup k, fun k => csX1.lookup k, fun k => nwX1.lookup k, fun k => anX1.lookup k, fun k => (saX1.lookup k).map fun i => .ref (ad i), fun k => (caX1_init B ad).lookup k)
def eX1_init (B : Nat) (ad : Nat → Nat) : xR := x_ev B none (cxX1_init B ad) cX1_init 6
set_option maxRecDepth 20000 in
theorem mX1_init : x_Met l D cA ad B yX1_init cX1_init 6 none 1 20 (eX1_init B ad) := by
  show x_Met l D cA ad B yX1_init cX1_init 6 none 1 20 (x_ev B none (cxX1_init B ad) cX1_init 6)
  refine x_sound2 (own := RX1) (cx := cxX1_init B ad) (ini := true) rfl pnX1 (vcX1 rfl) (vsX1 rfl) (vfX1i rfl) (vnX1 rfl) (vaX1 rfl) ?_ (fun _ => rfl) _ _
  intro k kd n E hk
  have hm : (k, kd, n, E) ∈ caX1_init B ad := x_look hk
  simp only [caX1_init, List.mem_cons, List.not_mem_nil, or_false, Prod.mk.injEq] at hm
  rcases hm with ⟨rfl, rfl, rfl, rfl⟩
  · exact x_cwO xw52 xw1 xw2 ⟨by decide, by decide⟩
def caX2_init (B : Nat) (ad : Nat → Nat) : List (Nat × Nat × Nat × xR) := [(1, 2, 1, x_obj)]
def cxX2_init (B : Nat) (ad : Nat → Nat) : xC := (fun k => flX2i.lookup k, fun k => csX2.lookup k, fun k => nwX2.lookup k, fun k => anX2.lookup k, fun k => (saX2.lookup k).map fun i => .ref (ad i), fun k => (caX2_init B ad).lookup k)
def eX2_init (B : Nat) (ad : Nat → Nat) : xR := x_ev B none (cxX2_init B ad) cX2_init 4
set_option maxRecDepth 20000 in
theorem mX2_init : x_Met l D cA ad B yX2_init cX2_init 4 none 1 20 (eX2_init B ad) := by
  show x_Met l D cA ad B yX2_init cX2_init 4 none 1 20 (x_ev B none (cxX2_init B ad) cX2_init 4)
  refine x_sound2 (own := RX2) (cx := cxX2_init B ad) (ini := true) rfl pnX2 (vcX2 rfl) (vsX2 rfl) (vfX2i rfl) (vnX2 rfl) (vaX2 rfl) ?_ (fun _ => rfl) _ _
  intro k kd n E hk
  have hm : (k, kd, n, E) ∈ caX2_init B ad := x_look hk
  simp only [caX2_init, List.mem_cons, List.not_mem_nil, or_false, Prod.mk.injEq] at hm
  rcases hm with ⟨rfl, rfl, rfl, rfl⟩
  · exact x_cwO xw53 xw1 xw2 ⟨by decide, by decide⟩
def caX2_price (B : Nat) (ad : Nat → Nat) : List (Nat × Nat × Nat × xR) := []
def cxX2_price (B : Nat) (ad : Nat → Nat) : xC := (fun k => flX2.lookup k, fun k => csX2.lookup k, fun k => nwX2.lookup k, fun k => anX2.lookup k, fun k => (saX2.lookup k).map fun i => .ref (ad i), fun k => (caX2_price B ad).lookup k)
def eX2_price (B : Nat) (ad : Nat → Nat) : xR := x_ev B (some .int) (cxX2_price B ad) cX2_price 1
set_option maxRecDepth 20000 in
theorem mX2_price : x_Met l D cA ad B yX2_price cX2_price 1 (some .int) 0 0 (eX2_price B ad) := by
  show x_Met l D cA ad B yX2_price cX2_price 1 (some .int) 0 0 (x_ev B (some .int) (cxX2_price B ad) cX2_price 1)
  refine x_sound2 (own := RX2) (cx := cxX2_price B ad) (ini := false) rfl pnX2 (vcX2 rfl) (vsX2 rfl) (vfX2 rfl) (vnX2 rfl) (vaX2 rfl) ?_ (fun h => by cases h) _ _
  intro k kd n E hk
  have hm : (k, kd, n, E) ∈ caX2_price B ad := x_look hk
  simp only [caX2_price, List.mem_cons, List.not_mem_nil, or_false, Prod.mk.injEq] at hm
def caX2_startTally (B : Nat) (ad : Nat → Nat) : List (Nat × Nat × Nat × xR) := []
def cxX2_startTally (B : Nat) (ad : Nat → Nat) : xC := (fun k => flX2.lookup k, fun k => csX2.lookup k, fun k => nwX2.lookup k, fun k => anX2.lookup k, fun k => (saX2.lookup k).map fun i => .ref (ad i), fun k => (caX2_startTally B ad).lookup k)
def eX2_startTally (B : Nat) (ad : Nat → Nat) : xR := x_ev B none (cxX2_startTally B ad) cX2_startTally 1
set_option maxRecDepth 20000 in
theorem mX2_startTally : x_Met l D cA ad B yX2_startTally cX2_startTally 1 none 0 0 (eX2_startTally B ad) := by
  show x_Met l D cA ad B yX2_startTally cX2_startTally 1 none 0 0 (x_ev B none (cxX2_startTally B ad) cX2_startTally 1)
  refine x_sound2 (own := RX2) (cx := cxX2_startTally B ad) (ini := false) rfl pnX2 (vcX2 rfl) (vsX2 rfl) (vfX2 rfl) (vnX2 rfl) (vaX2 rfl) ?_ (fun h => by cases h) _ _
  intro k kd n E hk
  have hm : (k, kd, n, E) ∈ caX2_startTally B ad := x_look hk
  simp only [caX2_startTally, List.mem_cons, List.not_mem_nil, or_false, Prod.mk.injEq] at hm
def caX2_tallyOnPage (B : Nat) (ad : Nat → Nat) : List (Nat × Nat × Nat × xR) := []
def cxX2_tallyOnPage (B : Nat) (ad : Nat → Nat) : xC := (fun k => flX2.lookup k, fun k => csX2.lookup k, fun k => nwX2.lookup k, fun k => anX2.lookup k, fun k => (saX2.lookup k).map fun i => .ref (ad i), fun k => (caX2_tallyOnPage B ad).lookup k)
def eX2_tallyOnPage (B : Nat) (ad : Nat → Nat) : xR := x_ev B none (cxX2_tallyOnPage B ad) cX2_tallyOnPage 2
set_option maxRecDepth 20000 in
theorem mX2_tallyOnPage : x_Met l D cA ad B yX2_tallyOnPage cX2_tallyOnPage 2 none 0 0 (eX2_tallyOnPage B ad) := by
  show x_Met l D cA ad B yX2_tallyOnPage cX2_tallyOnPage 2 none 0 0 (x_ev B none (cxX2_tallyOnPage B ad) cX2_tallyOnPage 2)
  refine x_sound2 (own := RX2) (cx := cxX2_tallyOnPage B ad) (ini := false) rfl pnX2 (vcX2 rfl) (vsX2 rfl) (vfX2 rfl) (vnX2 rfl) (vaX2 rfl) ?_ (fun h => by cases h) _ _
  intro k kd n E hk
  have hm : (k, kd, n, E) ∈ caX2_tallyOnPage B ad := x_look hk
  simp only [caX2_tallyOnPage, List.mem_cons, List.not_mem_nil, or_false, Prod.mk.injEq] at hm
def caX2_tallyIsRight (B : Nat) (ad : Nat → Nat) : List (Nat × Nat × Nat × xR) := []
def cxX2_tallyIsRight (B : Nat) (ad : Nat → Nat) : xC := (fun k => flX2.lookup k, fun k => csX2.lookup k, fun k => nwX2.lookup k, fun k => anX2.lookup k, fun k => (saX2.lookup k).map fun i => .ref (ad i), fun k => (caX2_tallyIsRight B ad).lookup k)
def eX2_tallyIsRight (B : Nat) (ad : Nat → Nat) : xR := x_ev B (some .boolean) (cxX2_tallyIsRight B ad) cX2_tallyIsRight 1
set_option maxRecDepth 20000 in
theorem mX2_tallyIsRight : x_Met l D cA ad B yX2_tallyIsRight cX2_tallyIsRight 1 (some .boolean) 0 0 (eX2_tallyIsRight B ad) := by
  show x_Met l D cA ad B yX2_tallyIsRight cX2_tallyIsRight 1 (some .boolean) 0 0 (x_ev B (some .boolean) (cxX2_tallyIsRight B ad) cX2_tallyIsRight 1)
  refine x_sound2 (own := RX2) (cx := cxX2_tallyIsRight B ad) (ini := false) rfl pnX2 (vcX2 rfl) (vsX2 rfl) (vfX2 rfl) (vnX2 rfl) (vaX2 rfl) ?_ (fun h => by cases h) _ _
  intro k kd n E hk
  have hm : (k, kd, n, E) ∈ caX2_tallyIsRight B ad := x_look hk
  simp only [caX2_tallyIsRight, List.mem_cons, List.not_mem_nil, or_false, Prod.mk.injEq] at hm
end XCT
