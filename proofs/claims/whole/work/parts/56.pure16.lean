theorem chR {σ α : St} {n : Nat} {V B N K C : Nat → Int} (hR : RV σ α n V B N) (hKC : ∀ i, i < n → α 98 i = K i ∧ α 96 (19 + i) = C i ∧ (1 ≤ K i ∧ K i ≤ 99) ∧ (0 ≤ C i ∧ C i ≤ 9) ∧ B i = K i + 10 * C i) {k : Nat} (hk : k < n) {c z : Int} (hz : z = (if 9 < C k + c then 9 else C k + c)) : RV σ (uA α 96 (uF (α 96) (19 + k) z)) n V (chB B K C k c) N := by
  refine ⟨hR.1, fun i hi => ?_⟩
  rw [uA_ne _ _ (show (97 : Nat) ≠ 96 by decide), uA_ne _ _ (show (98 : Nat) ≠ 96 by decide), uA_ne _ _ (show (99 : Nat) ≠ 96 by decide), uA_eq]
  refine ⟨(hR.2 i hi).1, ?_, (hR.2 i hi).2.2⟩
  unfold chB
  by_cases h : i = k
  · subst h
    rw [uF_eq, uF_eq, hz, (hKC i hi).1]
  · rw [uF_ne _ _ (by omega), uF_ne _ _ h]; exact (hR.2 i hi).2.1
theorem rst {α : St} {j : Nat} {x z : Int} (h : α 96 j = x) : uA (uA α 96 (uF (α 96) j z)) 96 (uF (uF (α 96) j z) j x) = α := by
  rw [uA_uA, uF_uF, ← h, uF_id, uA_id]
