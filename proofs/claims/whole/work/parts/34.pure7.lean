def sh3 (α : St) (p : Nat) (f g h : Nat → Int) : St := uA (uA (uA α (p + 2) f) (p + 3) g) (p + 4) h
theorem sh3_2 (α : St) (p : Nat) (f g h : Nat → Int) : sh3 α p f g h (p + 2) = f := by
  unfold sh3; rw [uA_ne _ _ (by omega), uA_ne _ _ (by omega), uA_eq]
theorem sh3_3 (α : St) (p : Nat) (f g h : Nat → Int) : sh3 α p f g h (p + 3) = g := by
  unfold sh3; rw [uA_ne _ _ (by omega), uA_eq]
theorem sh3_4 (α : St) (p : Nat) (f g h : Nat → Int) : sh3 α p f g h (p + 4) = h := by
  unfold sh3; rw [uA_eq]
theorem uA_comm (α : St) {q r : Nat} (h : q ≠ r) (f g : Nat → Int) : uA (uA α q f) r g = uA (uA α r g) q f := by
  funext a
  by_cases h1 : a = r
  · subst h1; rw [uA_eq, uA_ne _ _ (Ne.symm h), uA_eq]
  · by_cases h2 : a = q
    · subst h2; rw [uA_ne _ _ h1, uA_eq, uA_eq]
    · rw [uA_ne _ _ h1, uA_ne _ _ h2, uA_ne _ _ h2, uA_ne _ _ h1]
theorem sh3_p2 (α : St) (p : Nat) (f g h f' : Nat → Int) : uA (sh3 α p f g h) (p + 2) f' = sh3 α p f' g h := by
  unfold sh3
  rw [uA_comm _ (show p + 4 ≠ p + 2 by omega), uA_comm _ (show p + 3 ≠ p + 2 by omega), uA_uA]
theorem sh3_p3 (α : St) (p : Nat) (f g h g' : Nat → Int) : uA (sh3 α p f g h) (p + 3) g' = sh3 α p f g' h := by
  unfold sh3
  rw [uA_comm _ (show p + 4 ≠ p + 3 by omega), uA_uA]
theorem sh3_p4 (α : St) (p : Nat) (f g h h' : Nat → Int) : uA (sh3 α p f g h) (p + 4) h' = sh3 α p f g h' := by
  unfold sh3
  rw [uA_uA]
theorem sh3_id (α : St) (p : Nat) : sh3 α p (α (p + 2)) (α (p + 3)) (α (p + 4)) = α := by
  funext a
  unfold sh3 uA
  split
  · rename_i h; rw [h]
  · split
    · rename_i h; rw [h]
    · split
      · rename_i h; rw [h]
      · rfl
theorem shiftF_s (f : Nat → Int) {r k : Nat} (h : r ≤ k) : uF (shiftF f r (k + 1)) k (f (k + 1)) = shiftF f r (k + 2) := by
  funext i
  unfold uF shiftF
  by_cases hi : i = k
  · subst hi; simp; omega
  · rw [if_neg hi]
    by_cases h2 : r ≤ i ∧ i + 1 < k + 1
    · rw [if_pos h2, if_pos (by omega)]
    · rw [if_neg h2, if_neg (by omega)]
theorem shiftF_0 (f : Nat → Int) (r : Nat) : shiftF f r (r + 1) = f := by
  funext i
  unfold shiftF
  rw [if_neg (by omega)]
theorem past_at : ∀ k : Nat, k < 8 → [31, 36, 41, 46, 51, 56, 61, 66][(k : Int).toNat]? = some (29 + 5 * k + 2) := by decide
theorem isFit_past : ∀ k : Nat, k < 8 → isFit (29 + 5 * k)
  | 0, _ => ⟨rfl, rfl, rfl, rfl, rfl⟩
  | 1, _ => ⟨rfl, rfl, rfl, rfl, rfl⟩
  | 2, _ => ⟨rfl, rfl, rfl, rfl, rfl⟩
  | 3, _ => ⟨rfl, rfl, rfl, rfl, rfl⟩
  | 4, _ => ⟨rfl, rfl, rfl, rfl, rfl⟩
  | 5, _ => ⟨rfl, rfl, rfl, rfl, rfl⟩
  | 6, _ => ⟨rfl, rfl, rfl, rfl, rfl⟩
  | 7, _ => ⟨rfl, rfl, rfl, rfl, rfl⟩
  | k + 8, h => absurd h (by omega)
theorem isFit_now : isFit 22 := ⟨rfl, rfl, rfl, rfl, rfl⟩
theorem isPlan_told : isPlan 3 := ⟨rfl, rfl, rfl, rfl, ⟨rfl, rfl, rfl, rfl, rfl⟩⟩
theorem isPlan_trial : isPlan 12 := ⟨rfl, rfl, rfl, rfl, ⟨rfl, rfl, rfl, rfl, rfl⟩⟩
theorem kept_at : ∀ k : Nat, k < 2 → [81, 86][(k : Int).toNat]? = some (79 + 5 * k + 2) := by decide
theorem isFit_kept : ∀ k : Nat, k < 2 → isFit (79 + 5 * k)
  | 0, _ => ⟨rfl, rfl, rfl, rfl, rfl⟩
  | 1, _ => ⟨rfl, rfl, rfl, rfl, rfl⟩
  | k + 2, h => absurd h (by omega)
def sumO (N : Nat → Int) : Nat → Int
  | 0 => 0
  | k + 1 => sumO N k + onesU (N k) 10
theorem sumO_r (N : Nat → Int) : ∀ k, 0 ≤ sumO N k ∧ sumO N k ≤ 10 * k
  | 0 => by simp [sumO]
  | k + 1 => by have := sumO_r N k; have := onesU_r (N k) 10; unfold sumO; omega
