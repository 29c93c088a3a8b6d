theorem zp_0 (g : Nat → Int) : cpA (fun _ => 0) g 0 = g := by funext i; simp [cpA]
theorem zp_s (g : Nat → Int) (k : Nat) : uF (cpA (fun _ => 0) g k) k 0 = cpA (fun _ => 0) g (k + 1) := by
  funext i
  unfold uF cpA
  by_cases h : i = k
  · rw [if_pos h, if_pos (by omega)]
  · rw [if_neg h]
    by_cases h2 : i < k
    · rw [if_pos h2, if_pos (by omega)]
    · rw [if_neg h2, if_neg (by omega)]
/-- bins below k vanished -/
def vnS (σ : St) : Nat → St
  | 0 => σ
  | k + 1 => uS (uS (vnS σ k) (89 + 2 * k) 1 1) (89 + 2 * k) 3 0
/-- the reference's row anew, chills below k -/
def anR (R : Nat → Int) (k : Nat) : Nat → Int := fun i => if i = 0 ∨ (19 ≤ i ∧ i < 19 + k) then 0 else R i
theorem anR_0 (R : Nat → Int) : uF R 0 0 = anR R 0 := by
  funext i
  unfold uF anR
  by_cases h : i = 0
  · rw [if_pos h, if_pos (by omega)]
  · rw [if_neg h, if_neg (by omega)]
theorem anR_s (R : Nat → Int) (k : Nat) : uF (anR R k) (19 + k) 0 = anR R (k + 1) := by
  funext i
  unfold uF anR
  by_cases h : i = 19 + k
  · rw [if_pos h, if_pos (by omega)]
  · rw [if_neg h]
    by_cases h2 : i = 0 ∨ (19 ≤ i ∧ i < 19 + k)
    · rw [if_pos h2, if_pos (by omega)]
    · rw [if_neg h2, if_neg (by omega)]
theorem uA_cm (α : St) {p q : Nat} (f g : Nat → Int) (h : p ≠ q) : uA (uA α p f) q g = uA (uA α q g) p f := by
  funext r i
  by_cases h1 : r = q
  · subst h1; rw [uA_eq, uA_ne _ _ (by omega), uA_eq]
  · by_cases h2 : r = p
    · subst h2; rw [uA_eq, uA_ne _ _ h1, uA_eq]
    · rw [uA_ne _ _ h1, uA_ne _ _ h2, uA_ne _ _ h2, uA_ne _ _ h1]
