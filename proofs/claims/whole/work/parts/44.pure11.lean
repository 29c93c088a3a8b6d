/-- n of a row from place a on, laid from place b on -/
def cpR (R : Nat → Int) (a b n : Nat) : Nat → Int := fun i => if b ≤ i ∧ i < b + n then R (a + (i - b)) else R i
theorem cpR_0 (R : Nat → Int) (a b : Nat) : cpR R a b 0 = R := by
  funext i
  unfold cpR
  rw [if_neg (by omega)]
theorem cpR_s (R : Nat → Int) (a b k : Nat) : uF (cpR R a b k) (b + k) (R (a + k)) = cpR R a b (k + 1) := by
  funext i
  unfold uF cpR
  by_cases h : i = b + k
  · subst h
    rw [if_pos rfl, if_pos (by omega), show a + (b + k - b) = a + k by omega]
  · rw [if_neg h]
    by_cases h2 : b ≤ i ∧ i < b + k
    · rw [if_pos h2, if_pos (by omega)]
    · rw [if_neg h2, if_neg (by omega)]
theorem cpR_in (R : Nat → Int) {a b n j : Nat} (h : j < n) : cpR R a b n (b + j) = R (a + j) := by
  unfold cpR
  rw [if_pos (by omega), show a + (b + j - b) = a + j by omega]
theorem cpR_out (R : Nat → Int) {a b n i : Nat} (h : i < b ∨ b + n ≤ i) : cpR R a b n i = R i := by
  unfold cpR
  rw [if_neg (by omega)]
/-- a riser more in the reference's row -/
def arR (R : Nat → Int) (m : Nat) (on vo sk : Int) : Nat → Int := uF (uF (uF (uF R (1 + m) on) (7 + m) vo) (13 + m) sk) 0 ((m : Int) + 1)
