theorem RV.ua {σ α : St} {n : Nat} {V B N : Nat → Int} (hR : RV σ α n V B N) (f : Nat → Int) : RV σ (uA α 107 f) n V B N := ⟨hR.1, hR.2⟩
/-- the rule: share and pass -/
def RU (σ : St) (a b c : Int) : Prop := σ 95 5 = a ∧ σ 95 6 = b ∧ σ 95 7 = c ∧ (1 ≤ a ∧ a ≤ 99) ∧ (1 ≤ b ∧ b ≤ 99) ∧ 0 ≤ c ∧ c ≤ 100
theorem RU.sc {σ σ1 : St} {a b c : Int} (h : RU σ a b c) (hs : Sc σ σ1) : RU σ1 a b c := by
  obtain ⟨h1, h2, h3, h4⟩ := h
  exact ⟨by rw [hs.at (by decide)]; exact h1, by rw [hs.at (by decide)]; exact h2, by rw [hs.at (by decide)]; exact h3, h4⟩
/-- the risers in the reference's row -/
def RR (α : St) (n m : Nat) : Prop := α 96 0 = m ∧ m ≤ 6 ∧ ∀ r, r < m → (0 ≤ α 96 (1 + r) ∧ α 96 (1 + r) < n) ∧ (1 ≤ α 96 (7 + r) ∧ α 96 (7 + r) ≤ 99) ∧ (1 ≤ α 96 (13 + r) ∧ α 96 (13 + r) ≤ 99)
theorem passR_r (V B N : Nat → Int) (n : Nat) (one other : Int) : -1 ≤ passR V B N n one other ∧ passR V B N n one other < n := latU_r _ _ _ _
theorem drwR_r (c : Int) (V B N : Nat → Int) (n t : Nat) : -1 ≤ drwR c V B N n t ∧ drwR c V B N n t < n := latU_r _ _ _ _
def hdsF (c : Int) (V B N : Nat → Int) (n : Nat) (f : Nat → Int) (k : Nat) : Nat → Int := fun i => if i < k then (hds c V B N n i : Int) else f i
theorem hdsF_0 (c : Int) (V B N : Nat → Int) (n : Nat) (f : Nat → Int) : hdsF c V B N n f 0 = f := by funext i; simp [hdsF]
theorem hdsF_s (c : Int) (V B N : Nat → Int) (n : Nat) (f : Nat → Int) (k : Nat) : uF (hdsF c V B N n f k) k (hds c V B N n k) = hdsF c V B N n f (k + 1) := by
  funext i
  by_cases h : i = k
  · subst h; simp [uF, hdsF]
  · by_cases h2 : i < k
    · simp [uF, hdsF, h, h2]; omega
    · have : ¬ i < k + 1 := by omega
      simp [uF, hdsF, h, h2, this]
theorem fst1_y {p : Nat → Bool} {f k : Nat} (h : p k = true) : fst1 p (f + 1) k = k := by simp only [fst1, h, if_true]
theorem fst1_n {p : Nat → Bool} {f k : Nat} (h : p k = false) : fst1 p (f + 1) k = fst1 p f (k + 1) := by simp only [fst1, h, Bool.false_eq_true, if_false]
theorem fdrR_r (a b : Int) (V B : Nat → Int) (hd on vo sk : Nat → Int) (m : Nat) (set : Int) (t : Nat) : -1 ≤ fdrR a b V B hd on vo sk m set t ∧ fdrR a b V B hd on vo sk m set t < m := by
  have := fst1_r (fdrP a b V B hd on vo sk set t) m 0
  unfold fdrR; omega
theorem gcd_step {x y : Int} (hx : 0 ≤ x) (hy : 0 < y) : Int.gcd x y = Int.gcd y (x % y) := by
  rw [Int.gcd_comm x y]
  obtain ⟨a, rfl⟩ := Int.eq_ofNat_of_zero_le hx
  obtain ⟨b, rfl⟩ := Int.eq_ofNat_of_zero_le (Int.le_of_lt hy)
  show Nat.gcd b a = Nat.gcd b (a % b)
  rw [Nat.gcd_comm b (a % b), ← Nat.gcd_rec]
