/-- a bin of the reference -/
def RB (α : St) (k : Nat) (z kd : Int) (f : Nat → Int) : Prop := α 102 k = z ∧ (-1 ≤ z ∧ z ≤ 8) ∧ α 103 k = kd ∧ (kd = 0 ∨ kd = 1) ∧ ∀ j, j < 8 → α 104 (8 * k + j) = f j ∧ 0 ≤ f j ∧ f j ≤ 30000
def FrR (k : Nat) (α α' : St) : Prop := (∀ q, q ≠ 102 → q ≠ 103 → q ≠ 104 → α' q = α q) ∧ ∀ t, t < 3 → t ≠ k → α' 102 t = α 102 t ∧ α' 103 t = α 103 t ∧ ∀ j, j < 8 → α' 104 (8 * t + j) = α 104 (8 * t + j)
theorem FrR.rf (k : Nat) (α : St) : FrR k α α := ⟨fun _ _ _ _ => rfl, fun _ _ _ => ⟨rfl, rfl, fun _ _ => rfl⟩⟩
theorem FrR.sz {k : Nat} {α α' : St} (h : FrR k α α') (v : Int) : FrR k α (uA α' 102 (uF (α' 102) k v)) := by
  refine ⟨fun q h1 h2 h3 => by rw [uA_ne _ _ h1]; exact h.1 q h1 h2 h3, fun t ht hne => ?_⟩
  obtain ⟨a, b, c⟩ := h.2 t ht hne
  rw [uA_eq, uA_ne _ _ (by decide), uA_ne _ _ (by decide), uF_ne _ _ hne]
  exact ⟨a, b, c⟩
theorem FrR.kd {k : Nat} {α α' : St} (h : FrR k α α') (v : Int) : FrR k α (uA α' 103 (uF (α' 103) k v)) := by
  refine ⟨fun q h1 h2 h3 => by rw [uA_ne _ _ h2]; exact h.1 q h1 h2 h3, fun t ht hne => ?_⟩
  obtain ⟨a, b, c⟩ := h.2 t ht hne
  rw [uA_eq, uA_ne _ _ (by decide), uA_ne _ _ (by decide), uF_ne _ _ hne]
  exact ⟨a, b, c⟩
theorem FrR.th {k i : Nat} {α α' : St} (h : FrR k α α') (hi : 8 * k ≤ i ∧ i < 8 * k + 8) (v : Int) : FrR k α (uA α' 104 (uF (α' 104) i v)) := by
  refine ⟨fun q h1 h2 h3 => by rw [uA_ne _ _ h3]; exact h.1 q h1 h2 h3, fun t ht hne => ?_⟩
  obtain ⟨a, b, c⟩ := h.2 t ht hne
  rw [uA_eq, uA_ne _ _ (by decide), uA_ne _ _ (by decide)]
  exact ⟨a, b, fun j hj => by rw [uF_ne _ _ (by omega)]; exact c j hj⟩
theorem FrR.put {k : Nat} {α α' : St} (h : FrR k α α') (g : Nat → Int) : FrR k α (uA α' 104 (putAt (α' 104) (8 * k) g)) := by
  refine ⟨fun q h1 h2 h3 => by rw [uA_ne _ _ h3]; exact h.1 q h1 h2 h3, fun t ht hne => ?_⟩
  obtain ⟨a, b, c⟩ := h.2 t ht hne
  rw [uA_eq, uA_ne _ _ (by decide), uA_ne _ _ (by decide)]
  exact ⟨a, b, fun j hj => by rw [putAt_out _ (by omega)]; exact c j hj⟩
theorem RB.sz {α : St} {k : Nat} {z kd : Int} {f : Nat → Int} (h : RB α k z kd f) {v : Int} (hv : -1 ≤ v ∧ v ≤ 8) : RB (uA α 102 (uF (α 102) k v)) k v kd f := by
  obtain ⟨h1, h2, h3, h4, h5⟩ := h
  exact ⟨by rw [uA_eq, uF_eq], hv, by rw [uA_ne _ _ (by decide)]; exact h3, h4, fun j hj => by rw [uA_ne _ _ (by decide)]; exact h5 j hj⟩
theorem RB.kd {α : St} {k : Nat} {z kd : Int} {f : Nat → Int} (h : RB α k z kd f) {v : Int} (hv : v = 0 ∨ v = 1) : RB (uA α 103 (uF (α 103) k v)) k z v f := by
  obtain ⟨h1, h2, h3, h4, h5⟩ := h
  exact ⟨by rw [uA_ne _ _ (by decide)]; exact h1, h2, by rw [uA_eq, uF_eq], hv, fun j hj => by rw [uA_ne _ _ (by decide)]; exact h5 j hj⟩
theorem RB.th {α : St} {k : Nat} {z kd : Int} {f : Nat → Int} (h : RB α k z kd f) {j : Nat} (hj : j < 8) {v : Int} (hv : 0 ≤ v ∧ v ≤ 30000) : RB (uA α 104 (uF (α 104) (8 * k + j) v)) k z kd (uF f j v) := by
  obtain ⟨h1, h2, h3, h4, h5⟩ := h
  refine ⟨by rw [uA_ne _ _ (by decide)]; exact h1, h2, by rw [uA_ne _ _ (by decide)]; exact h3, h4, fun i hi => ?_⟩
  rw [uA_eq]
  unfold uF
  by_cases hij : i = j
  · subst hij; simp; exact hv
  · have : ¬ 8 * k + i = 8 * k + j := by omega
    simp [hij]; exact h5 i hi
theorem RB.put {α : St} {k : Nat} {z kd : Int} {f g : Nat → Int} (h : RB α k z kd f) (hg : ∀ j, j < 8 → 0 ≤ g j ∧ g j ≤ 30000) : RB (uA α 104 (putAt (α 104) (8 * k) g)) k z kd g := by
  obtain ⟨h1, h2, h3, h4, h5⟩ := h
  exact ⟨by rw [uA_ne _ _ (by decide)]; exact h1, h2, by rw [uA_ne _ _ (by decide)]; exact h3, h4, fun j hj => ⟨by rw [uA_eq, putAt_at _ hj], hg j hj⟩⟩
/-- greatest and least, begun with the last -/
def mxR (f : Nat → Int) (s : Int) : Nat → Int
  | 0 => s
  | k + 1 => if mxR f s k < f k then f k else mxR f s k
def mnR (f : Nat → Int) (s : Int) : Nat → Int
  | 0 => s
  | k + 1 => if mnR f s k < f k then mnR f s k else f k
theorem mxR_spec (f : Nat → Int) (s : Int) : ∀ k, s ≤ mxR f s k ∧ (∀ j, j < k → f j ≤ mxR f s k) ∧ (mxR f s k = s ∨ ∃ j, j < k ∧ mxR f s k = f j)
  | 0 => ⟨Int.le_refl _, fun j hj => by omega, Or.inl rfl⟩
  | k + 1 => by
    obtain ⟨h1, h2, h3⟩ := mxR_spec f s k
    unfold mxR
    split
    · refine ⟨by omega, fun j hj => ?_, Or.inr ⟨k, by omega, rfl⟩⟩
      by_cases h : j = k
      · subst h; omega
      · have := h2 j (by omega); omega
    · refine ⟨h1, fun j hj => ?_, ?_⟩
      · by_cases h : j = k
        · subst h; omega
        · exact h2 j (by omega)
      · rcases h3 with h | ⟨j, hj, h⟩
        · exact Or.inl h
        · exact Or.inr ⟨j, by omega, h⟩
theorem mnR_spec (f : Nat → Int) (s : Int) : ∀ k, mnR f s k ≤ s ∧ (∀ j, j < k → mnR f s k ≤ f j) ∧ (mnR f s k = s ∨ ∃ j, j < k ∧ mnR f s k = f j)
  | 0 => ⟨Int.le_refl _, fun j hj => by omega, Or.inl rfl⟩
  | k + 1 => by
    obtain ⟨h1, h2, h3⟩ := mnR_spec f s k
    unfold mnR
    split
    · refine ⟨h1, fun j hj => ?_, ?_⟩
      · by_cases h : j = k
        · subst h; omega
        · exact h2 j (by omega)
      · rcases h3 with h | ⟨j, hj, h⟩
        · exact Or.inl h
        · exact Or.inr ⟨j, by omega, h⟩
    · refine ⟨by omega, fun j hj => ?_, Or.inr ⟨k, by omega, rfl⟩⟩
      by_cases h : j = k
      · subst h; omega
      · have := h2 j (by omega); omega
theorem maxU_spec (f : Nat → Int) : ∀ k, (∀ j, j ≤ k → f j ≤ maxU f k) ∧ ∃ j, j ≤ k ∧ maxU f k = f j
  | 0 => ⟨fun j hj => by rw [show j = 0 by omega]; exact Int.le_refl _, 0, Nat.le_refl _, rfl⟩
  | k + 1 => by
    obtain ⟨h1, i, hi, h2⟩ := maxU_spec f k
    unfold maxU
    split
    · refine ⟨fun j hj => ?_, k + 1, Nat.le_refl _, rfl⟩
      by_cases h : j = k + 1
      · subst h; omega
      · have := h1 j (by omega); omega
    · refine ⟨fun j hj => ?_, i, by omega, h2⟩
      by_cases h : j = k + 1
      · subst h; omega
      · exact h1 j (by omega)
theorem minU_spec (f : Nat → Int) : ∀ k, (∀ j, j ≤ k → minU f k ≤ f j) ∧ ∃ j, j ≤ k ∧ minU f k = f j
  | 0 => ⟨fun j hj => by rw [show j = 0 by omega]; exact Int.le_refl _, 0, Nat.le_refl _, rfl⟩
  | k + 1 => by
    obtain ⟨h1, i, hi, h2⟩ := minU_spec f k
    unfold minU
    split
    · refine ⟨fun j hj => ?_, k + 1, Nat.le_refl _, rfl⟩
      by_cases h : j = k + 1
      · subst h; omega
      · have := h1 j (by omega); omega
    · refine ⟨fun j hj => ?_, i, by omega, h2⟩
      by_cases h : j = k + 1
      · subst h; omega
      · exact h1 j (by omega)
theorem mxR_eq (f : Nat → Int) {z : Nat} (hz : 1 ≤ z) : mxR f (f (z - 1)) z = maxU f (z - 1) := by
  obtain ⟨a1, a2, a3⟩ := mxR_spec f (f (z - 1)) z
  obtain ⟨b1, i, hi, b2⟩ := maxU_spec f (z - 1)
  have c1 := a2 i (by omega)
  rcases a3 with h | ⟨j, hj, h⟩
  · have := b1 (z - 1) (Nat.le_refl _); omega
  · have := b1 j (by omega); omega
theorem mnR_eq (f : Nat → Int) {z : Nat} (hz : 1 ≤ z) : mnR f (f (z - 1)) z = minU f (z - 1) := by
  obtain ⟨a1, a2, a3⟩ := mnR_spec f (f (z - 1)) z
  obtain ⟨b1, i, hi, b2⟩ := minU_spec f (z - 1)
  have c1 := a2 i (by omega)
  rcases a3 with h | ⟨j, hj, h⟩
  · have := b1 (z - 1) (Nat.le_refl _); omega
  · have := b1 j (by omega); omega
theorem mxR_r (f : Nat → Int) (s : Int) (hs : 0 ≤ s ∧ s ≤ 30000) (hf : ∀ j, j < 8 → 0 ≤ f j ∧ f j ≤ 30000) : ∀ k, k ≤ 8 → 0 ≤ mxR f s k ∧ mxR f s k ≤ 30000
  | 0, _ => hs
  | k + 1, h => by have := mxR_r f s hs hf k (by omega); have := hf k (by omega); unfold mxR; split <;> omega
theorem mnR_r (f : Nat → Int) (s : Int) (hs : 0 ≤ s ∧ s ≤ 30000) (hf : ∀ j, j < 8 → 0 ≤ f j ∧ f j ≤ 30000) : ∀ k, k ≤ 8 → 0 ≤ mnR f s k ∧ mnR f s k ≤ 30000
  | 0, _ => hs
  | k + 1, h => by have := mnR_r f s hs hf k (by omega); have := hf k (by omega); unfold mnR; split <;> omega
