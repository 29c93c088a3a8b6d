/-- a fit stands at p -/
def isFit (p : Nat) : Prop := LA[p]? = some (yO 1 [p + 3, p + 4, p + 5, p + 6, 0]) ∧ LA[p + 1]? = some (yA 0 10) ∧ LA[p + 2]? = some (yA 0 6) ∧ LA[p + 3]? = some (yA 0 6) ∧ LA[p + 4]? = some (yA 0 6)
def fcA (α : St) (p q : Nat) : St := uA (uA (uA (uA α (p + 1) (cpA (α (q + 1)) (α (p + 1)) 10)) (p + 2) (cpA (α (q + 2)) (α (p + 2)) 6)) (p + 3) (cpA (α (q + 3)) (α (p + 3)) 6)) (p + 4) (cpA (α (q + 4)) (α (p + 4)) 6)
def fcS (σ : St) (p q : Nat) : St := uS σ p 4 (σ q 4)
/-- a plan stands at p (its fit behind its rows) -/
def isPlan (p : Nat) : Prop := LA[p]? = some (yO 4 [p + 3, p + 4, p + 5, p + 6, 0, 0, 0, 0]) ∧ LA[p + 1]? = some (yA 0 10) ∧ LA[p + 2]? = some (yA 0 10) ∧ LA[p + 3]? = some (yA 0 10) ∧ isFit (p + 4)
def shiftF (f : Nat → Int) (r m : Nat) : Nat → Int := fun i => if r ≤ i ∧ i + 1 < m then f (i + 1) else f i
