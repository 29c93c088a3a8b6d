/-- what a question may change in the class: the scratch of the melt -/
def Cq (σ α s' a' : St) : Prop := (∃ x, s' = uS σ 71 8 x) ∧ Agm α a'
theorem bstK_2 (t : Nat → Int) (ht : ∀ k, 0 ≤ t k ∧ t k ≤ 10) : ∀ k, 0 < k → (bstK t k).2 = t (bstK t k).1.toNat
  | 0, h => by omega
  | k + 1, _ => by
    rw [bstK]
    by_cases h : t k < (bstK t k).2
    · rw [if_pos h]; simp
    · rw [if_neg h]
      by_cases h0 : k = 0
      · subst h0; exact absurd (show t 0 < 11 by have := ht 0; omega) h
      · exact bstK_2 t ht k (by omega)
