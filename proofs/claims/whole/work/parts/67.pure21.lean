/-- one bin poured into another -/
def plR (z1 z2 k1 k2 : Int) : Int := if z1 < 0 ∨ z2 < 0 then -11 else if k1 = k2 then (if z1 + z2 ≤ 8 then z1 + z2 else -14) else -12
def plB (z1 z2 k1 k2 : Int) : Bool := decide (0 ≤ z1 ∧ 0 ≤ z2 ∧ k1 = k2 ∧ z1 + z2 ≤ 8)
def apF (f g : Nat → Int) (z j : Nat) : Nat → Int := fun i => if z ≤ i ∧ i < z + j then g (i - z) else f i
theorem apF_0 (f g : Nat → Int) (z : Nat) : apF f g z 0 = f := by
  funext i; unfold apF; rw [if_neg (by omega)]
theorem apF_s (f g : Nat → Int) (z j : Nat) : uF (apF f g z j) (z + j) (g j) = apF f g z (j + 1) := by
  funext i
  unfold uF apF
  by_cases h : i = z + j
  · subst h; rw [if_pos rfl, if_pos (by omega), show z + j - z = j by omega]
  · rw [if_neg h]
    by_cases h2 : z ≤ i ∧ i < z + j
    · rw [if_pos h2, if_pos (by omega)]
    · rw [if_neg h2, if_neg (by omega)]
theorem FrR.rb {t s : Nat} {α α1 : St} (h : FrR t α α1) (hs : s < 3) (hst : s ≠ t) {z kd : Int} {f : Nat → Int} (hB : RB α s z kd f) : RB α1 s z kd f := by
  obtain ⟨e1, e2, e3⟩ := h.2 s hs hst
  obtain ⟨b1, b2, b3, b4, b5⟩ := hB
  exact ⟨by rw [e1]; exact b1, b2, by rw [e2]; exact b3, b4, fun j hj => by rw [e3 j hj]; exact b5 j hj⟩
