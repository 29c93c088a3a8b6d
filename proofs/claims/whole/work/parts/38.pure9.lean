/-- a bin of the class: its size or -1, its kind, its things -/
def BK (σ α : St) (p : Nat) (z kd : Int) (f : Nat → Int) : Prop := ((σ p 1 = 1 ∧ z = -1 ∧ σ p 3 = 0) ∨ (σ p 1 = 0 ∧ z = σ p 3 ∧ 0 ≤ z ∧ z ≤ 8)) ∧ σ p 2 = kd ∧ (kd = 0 ∨ kd = 1) ∧ ∀ j, j < 8 → α (p + 1) j = f j ∧ 0 ≤ f j ∧ f j ≤ 30000
/-- all else stays -/
def FrB (p : Nat) (σ α σ' α' : St) : Prop := (∀ q, q ≠ p → σ' q = σ q) ∧ ∀ q, q ≠ p + 1 → α' q = α q
theorem FrB.rf (p : Nat) (σ α : St) : FrB p σ α σ α := ⟨fun _ _ => rfl, fun _ _ => rfl⟩
theorem uS_row (σ : St) {q q' k : Nat} (v : Int) (h : q' ≠ q) : uS σ q k v q' = σ q' := by funext j; simp [uS, h]
theorem FrB.s {p k : Nat} {σ α σ' α' : St} (h : FrB p σ α σ' α') (v : Int) : FrB p σ α (uS σ' p k v) α' := ⟨fun q hq => by rw [uS_row _ _ hq]; exact h.1 q hq, h.2⟩
theorem FrB.a {p : Nat} {σ α σ' α' : St} (h : FrB p σ α σ' α') (f : Nat → Int) : FrB p σ α σ' (uA α' (p + 1) f) := ⟨h.1, fun q hq => by rw [uA_ne _ _ hq]; exact h.2 q hq⟩
def abR (z kd kk : Int) : Int := if z < 0 then -11 else if kd = kk then (if z = 8 then -14 else z + 1) else -12
def abZ (z kd kk : Int) : Int := if 0 ≤ z ∧ kd = kk ∧ z ≠ 8 then z + 1 else z
def abF (z kd kk : Int) (f : Nat → Int) (x : Int) : Nat → Int := if 0 ≤ z ∧ kd = kk ∧ z ≠ 8 then uF f z.toNat x else f
theorem BK.ms {σ α : St} {p : Nat} {z kd : Int} {f : Nat → Int} (h : BK σ α p z kd f) : σ p 1 = 0 ∨ σ p 1 = 1 := by rcases h.1 with h | h <;> omega
theorem BK.sz {σ α : St} {p : Nat} {z kd : Int} {f : Nat → Int} (h : BK σ α p z kd f) : 0 ≤ σ p 3 ∧ σ p 3 ≤ 8 := by rcases h.1 with h | h <;> omega
theorem BK.kd {σ α : St} {p : Nat} {z kd : Int} {f : Nat → Int} (h : BK σ α p z kd f) : σ p 2 = 0 ∨ σ p 2 = 1 := by rw [h.2.1]; exact h.2.2.1
theorem BK.f8 {σ α : St} {p : Nat} {z kd : Int} {f : Nat → Int} (h : BK σ α p z kd f) : ∀ j, j < 8 → 0 ≤ α (p + 1) j ∧ α (p + 1) j ≤ 30000 := fun j hj => by rw [(h.2.2.2 j hj).1]; exact (h.2.2.2 j hj).2
theorem BK.add {σ α : St} {p : Nat} {z kd : Int} {f : Nat → Int} (h : BK σ α p z kd f) {kk x : Int} (hx : 0 ≤ x ∧ x ≤ 30000) : adR (σ p 1) (σ p 2) kk (σ p 3) = abR z kd kk ∧ BK (adS σ p (σ p 1) (σ p 2) kk (σ p 3)) (adA α p (σ p 1) (σ p 2) kk (σ p 3) x) p (abZ z kd kk) kd (abF z kd kk f x) ∧ FrB p σ α (adS σ p (σ p 1) (σ p 2) kk (σ p 3)) (adA α p (σ p 1) (σ p 2) kk (σ p 3) x) := by
  obtain ⟨h1, h2, h3, h4⟩ := h
  rcases h1 with ⟨m1, rfl, m3⟩ | ⟨m1, m2, m3, m4⟩
  · simp only [m1, adR, adS, adA, abR, abZ, abF]
    refine ⟨by simp, ?_, ?_⟩
    · simp; exact ⟨Or.inl ⟨m1, rfl, m3⟩, h2, h3, h4⟩
    · simp; exact FrB.rf _ _ _
  · simp only [m1, adR, adS, adA, abR, abZ, abF, h2, ← m2]
    by_cases hk : kd = kk
    · by_cases hz : z = 8
      · subst hz
        refine ⟨by simp [hk], ?_, ?_⟩
        · simp; exact ⟨Or.inr ⟨m1, m2, by omega, by omega⟩, h2, h3, h4⟩
        · simp; exact FrB.rf _ _ _
      · have hz2 : z < 8 := by omega
        have hz3 : ¬ z < 0 := by omega
        refine ⟨by simp [hk, hz, hz2, hz3], ?_, ?_⟩
        · simp only [hk, hz2, m3, and_self, if_true, ne_eq, hz, not_false_eq_true]
          refine ⟨Or.inr ⟨by simp [uS, m1], by simp [uS], by omega, by omega⟩, by simp [uS, h2, hk], by rw [← hk]; exact h3, fun j hj => ?_⟩
          rw [uA_eq]
          unfold uF
          by_cases hj2 : j = z.toNat
          · simp [hj2]; exact hx
          · simp [hj2]; exact h4 j hj
        · simp only [hk, hz2, and_self, if_true]
          exact ((FrB.rf p σ α).s _).a _
    · refine ⟨by simp [hk]; omega, ?_, ?_⟩
      · simp [hk]; exact ⟨Or.inr ⟨m1, m2, m3, m4⟩, h2, h3, h4⟩
      · simp [hk]; exact FrB.rf _ _ _
theorem maxU_c {f g : Nat → Int} : ∀ {k : Nat}, (∀ j, j ≤ k → f j = g j) → maxU f k = maxU g k
  | 0, h => h 0 (Nat.le_refl _)
  | k + 1, h => by unfold maxU; rw [maxU_c (fun j hj => h j (by omega)), h (k + 1) (Nat.le_refl _)]
theorem minU_c {f g : Nat → Int} : ∀ {k : Nat}, (∀ j, j ≤ k → f j = g j) → minU f k = minU g k
  | 0, h => h 0 (Nat.le_refl _)
  | k + 1, h => by unfold minU; rw [minU_c (fun j hj => h j (by omega)), h (k + 1) (Nat.le_refl _)]
theorem sumU_c {f g : Nat → Int} : ∀ {k : Nat}, (∀ j, j < k → f j = g j) → sumU f k = sumU g k
  | 0, _ => rfl
  | k + 1, h => by unfold sumU; rw [sumU_c (fun j hj => h j (by omega)), h k (by omega)]
theorem insU_c {v : Int} : ∀ (k : Nat) {f g : Nat → Int}, (∀ j, j < 8 → f j = g j) → k < 8 → ∀ j, j < 8 → insU v k f j = insU v k g j
  | 0, f, g, h, _, j, hj => by
    unfold insU uF
    split
    · rfl
    · exact h j hj
  | k + 1, f, g, h, hk, j, hj => by
    unfold insU
    rw [h k (by omega)]
    split
    · refine insU_c k (fun i hi => ?_) (by omega) j hj
      unfold uF
      split
      · rfl
      · exact h i hi
    · unfold uF
      split
      · rfl
      · exact h j hj
theorem srtU_c {f g : Nat → Int} (h : ∀ j, j < 8 → f j = g j) : ∀ k, k < 8 → ∀ j, j < 8 → srtU f k j = srtU g k j
  | 0, _ => h
  | k + 1, hk => by
    intro j hj
    unfold srtU
    rw [srtU_c h k (by omega) (k + 1) hk]
    exact insU_c (k + 1) (srtU_c h k (by omega)) hk j hj
def fdR (z w : Int) (f : Nat → Int) : Int := if z < 0 then -11 else if z = 0 then -13 else if w = 0 then maxU f (z - 1).toNat else if w = 1 then minU f (z - 1).toNat else f (z - 1).toNat
