theorem BK.all {σ α : St} {p q : Nat} {z1 k1 z2 k2 : Int} {f1 f2 : Nat → Int} (h1 : BK σ α q z1 k1 f1) (h2 : BK σ α p z2 k2 f2) :
    alR (σ p 1) (σ q 1) (σ p 2) (σ q 2) (σ p 3) (σ q 3) = plR z1 z2 k1 k2 ∧ BK (alS σ p (σ p 1) (σ q 1) (σ p 2) (σ q 2) (σ p 3) (σ q 3)) (alA α p q (σ p 1) (σ q 1) (σ p 2) (σ q 2) (σ p 3) (σ q 3)) p (if plB z1 z2 k1 k2 then z1 + z2 else z2) k2 (if plB z1 z2 k1 k2 then apF f2 f1 z2.toNat z1.toNat else f2) ∧ FrB p σ α (alS σ p (σ p 1) (σ q 1) (σ p 2) (σ q 2) (σ p 3) (σ q 3)) (alA α p q (σ p 1) (σ q 1) (σ p 2) (σ q 2) (σ p 3) (σ q 3)) := by
  obtain ⟨a1, a2, a3, a4⟩ := h1
  obtain ⟨b1, b2, b3, b4⟩ := h2
  by_cases hB : plB z1 z2 k1 k2 = true
  · have hB' := hB
    simp only [plB, decide_eq_true_eq] at hB'
    obtain ⟨c1, c2, c3, c4⟩ := hB'
    have m1 : σ q 1 = 0 ∧ σ q 3 = z1 := by rcases a1 with h | h <;> omega
    have m2 : σ p 1 = 0 ∧ σ p 3 = z2 := by rcases b1 with h | h <;> omega
    have key : (σ p 1 = 0 ∧ σ q 1 = 0 ∧ σ p 2 = σ q 2 ∧ σ p 3 + σ q 3 ≤ 8) := ⟨m2.1, m1.1, by omega, by omega⟩
    rw [alS, alA, if_pos key, if_pos key, if_pos hB, if_pos hB]
    refine ⟨?_, ⟨Or.inr ⟨?_, ?_, ?_, ?_⟩, ?_, b3, fun j hj => ?_⟩, ((FrB.rf p σ α).s _).a _⟩
    · unfold alR plR
      rw [if_pos ⟨key.1, key.2.1⟩, if_pos key.2.2.1, if_pos key.2.2.2, if_neg (by omega), if_pos c3, if_pos c4]
      omega
    · rw [uS_ne _ _ (by omega)]; exact m2.1
    · rw [uS_eq]; omega
    · omega
    · omega
    · rw [uS_ne _ _ (by omega)]; exact b2
    · rw [uA_eq, m1.2, m2.2]
      by_cases hj2 : z2.toNat ≤ j ∧ j < z2.toNat + z1.toNat
      · simp only [va_cpy, apF, if_pos hj2, Nat.zero_add]; exact a4 (j - z2.toNat) (by omega)
      · simp only [va_cpy, apF, if_neg hj2]; exact b4 j hj
  · have hB' := hB
    simp only [plB, decide_eq_true_eq] at hB'
    have key : ¬ (σ p 1 = 0 ∧ σ q 1 = 0 ∧ σ p 2 = σ q 2 ∧ σ p 3 + σ q 3 ≤ 8) := by rcases a1 with h | h <;> rcases b1 with g | g <;> omega
    rw [alS, alA, if_neg key, if_neg key, if_neg hB, if_neg hB]
    refine ⟨?_, ⟨b1, b2, b3, b4⟩, FrB.rf _ _ _⟩
    unfold alR plR
    rcases a1 with h | h <;> rcases b1 with g | g <;> repeat' split
    all_goals omega
theorem apF_r {f g : Nat → Int} {z j : Nat} (hf : ∀ i, i < 8 → 0 ≤ f i ∧ f i ≤ 30000) (hg : ∀ i, i < 8 → 0 ≤ g i ∧ g i ≤ 30000) : ∀ i, i < 8 → 0 ≤ apF f g z j i ∧ apF f g z j i ≤ 30000 := by
  intro i hi
  unfold apF
  split
  · exact hg _ (by omega)
  · exact hf i hi
