/-! THE LAW'S OWN 'marked': the class's call with the law's catch around it, as a relation -/
/-- the class's marked comes to its throw -/
def thr (ad : Nat → Nat) (x : Nat) (p q : Int32) (σ : xW) : Prop := ∃ pg, (∀ B, eX7_endedPage B ad [.ref x, .int p] σ (some pg) σ) ∧ (pg = .null ∨ ((∃ a, pg = .ref a) ∧ ∀ B, eX7_within B ad [.int q, .int 0, .int 2] σ (some (.int 0)) σ))
def emk (B : Nat) (ad : Nat → Nat) : xR := fun vs σ r σ' => ∃ x p q o fs, vs = [.ref x, .int p, .int q, .ref o] ∧ σ.1 x = some (7, fs) ∧ ((∃ v σ1 y, eX7_marked B ad [.ref x, .int p, .int q] σ (some (.int v)) σ1 ∧ σ1.1 o = some (101, [.long y]) ∧ B ≤ o ∧ r = some (.int 0) ∧ σ' = (x_up σ1.1 o (101, [.long v.toInt64]), σ1.2)) ∨ (thr ad x p q σ ∧ r = some (.int 1) ∧ σ' = (σ.1, σ.2.1 + 1, σ.2.2 + 6)))
