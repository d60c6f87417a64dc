/-! METHODS as relations, and their contracts -/
section XCT
variable {l : Launch} {D : va_G} {cA ad : Nat → Nat} {B : Nat}
def caX8_check (B : Nat) (ad : Nat → Nat) : List (Nat × Nat × Nat × xR) := []
def cxX8_check (B : Nat) (ad : Nat → Nat) : xC := (fun k => flX8.lookup k, fun k => csX8.lookup k, fun k => nwX8.lookup k, fun k => anX8.lookup k, fun k => (saX8.lookup k).map fun i => .ref (ad i), fun k => (caX8_check B ad).lookup k)
def eX8_check (B : Nat) (ad : Nat → Nat) : xR := x_ev B (some .int) (cxX8_check B ad) cX8_check 1
set_option maxRecDepth 20000 in
theorem mX8_check : x_Met l D cA ad B yX8_check cX8_check 1 (some .int) 0 0 (eX8_check B ad) := by
  show x_Met l D cA ad B yX8_check cX8_check 1 (some .int) 0 0 (x_ev B (some .int) (cxX8_check B ad) cX8_check 1)
  refine x_sound2 (own := RX8) (cx := cxX8_check B ad) (ini := false) rfl pnX8 (vcX8 rfl) (vsX8 rfl) (vfX8 rfl) (vnX8 rfl) (vaX8 rfl) ?_ (fun h => by cases h) _ _
  intro k kd n E hk
  have hm : (k, kd, n, E) ∈ caX8_check B ad := x_look hk
  simp only [caX8_check, List.mem_cons, List.not_mem_nil, or_false, Prod.mk.injEq] at hm
end XCT
