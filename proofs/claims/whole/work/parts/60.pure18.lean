theorem bstR_1 (t : Nat → Int) (n : Nat) : (bstR t n).1 = (bstK t n).1 := by
  unfold bstR
  by_cases h : n = 0
  · rw [if_pos h]; subst h; rfl
  · rw [if_neg h]
theorem bstR_2y {t : Nat → Int} (ht : ∀ k, 0 ≤ t k ∧ t k ≤ 10) {n : Nat} (h : (bstK t n).1 = -1) : (bstR t n).2 = -1 := by
  unfold bstR
  by_cases h0 : n = 0
  · rw [if_pos h0]
  · have := bstK_n ht n (by omega); omega
theorem bstR_2n {t : Nat → Int} (ht : ∀ k, 0 ≤ t k ∧ t k ≤ 10) {n w : Nat} (h : (bstK t n).1 = (w : Int)) : (bstR t n).2 = t w := by
  unfold bstR
  by_cases h0 : n = 0
  · subst h0; exact absurd (show (-1 : Int) = w from h) (by omega)
  · rw [if_neg h0, bstK_2 t ht n (by omega), h, Int.toNat_natCast]
