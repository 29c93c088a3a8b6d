/-! masks -/
def msk (p : Nat → Bool) : Nat → Nat
  | 0 => 0
  | k + 1 => msk p k ||| (if p k then 2 ^ k else 0)
theorem msk_lt (p : Nat → Bool) : ∀ k, msk p k < 2 ^ k
  | 0 => by simp [msk]
  | k + 1 => by
    unfold msk
    refine or_lt (Nat.lt_trans (msk_lt p k) pow_lt) ?_
    split
    · exact pow_lt
    · exact Nat.two_pow_pos _
theorem msk_bit (p : Nat → Bool) : ∀ k i, (msk p k).testBit i = (decide (i < k) && p i)
  | 0, i => by simp [msk]
  | k + 1, i => by
    unfold msk
    rw [Nat.testBit_or, msk_bit p k i]
    by_cases hk : p k = true
    · rw [if_pos hk, Nat.testBit_two_pow]
      by_cases hi : k = i
      · subst hi; simp [hk]
      · have : decide (i < k + 1) = decide (i < k) := by by_cases h : i < k <;> simp [h] <;> omega
        simp [hi, this]
    · rw [if_neg hk]
      simp only [Nat.zero_testBit, Bool.or_false]
      by_cases hi : k = i
      · subst hi; simp [hk]
      · have : decide (i < k + 1) = decide (i < k) := by by_cases h : i < k <;> simp [h] <;> omega
        rw [this]
theorem msk_ext {p q : Nat → Bool} : ∀ {k : Nat}, (∀ i, i < k → p i = q i) → msk p k = msk q k
  | 0, _ => rfl
  | k + 1, h => by
    unfold msk
    rw [msk_ext (fun i hi => h i (by omega)), h k (by omega)]
theorem hasB_nat (m k : Nat) : hasB m k = m.testBit k := by
  unfold hasB
  rw [Nat.testBit_eq_decide_div_mod_eq]
  have : ((m : Int) / 2 ^ (k : Int).toNat % 2 = 1) ↔ (m / 2 ^ k % 2 = 1) := by
    rw [show (k : Int).toNat = k from rfl, ← toNat_div (m : Int) (by omega) k]
    show ((m / 2 ^ k : Nat) : Int) % 2 = 1 ↔ _
    omega
  exact decide_eq_decide.mpr this
theorem hasB_msk {p : Nat → Bool} {n i : Nat} (hi : i < n) : hasB (msk p n : Nat) i = p i := by
  rw [hasB_nat, msk_bit]; simp [hi]
/-! the order of times -/
theorem cross {a b c d e f : Int} (hb : 0 < b) (hd : 0 < d) (hf : 0 < f) (h1 : c * b ≤ a * d) (h2 : e * d ≤ c * f) : e * b ≤ a * f ∧ (e * b = a * f → c * b = a * d ∧ e * d = c * f) := by
  have g1 : e * d * b ≤ c * f * b := Int.mul_le_mul_of_nonneg_right h2 (Int.le_of_lt hb)
  have g2 : c * b * f ≤ a * d * f := Int.mul_le_mul_of_nonneg_right h1 (Int.le_of_lt hf)
  rw [Int.mul_right_comm e d b, Int.mul_right_comm c f b] at g1
  rw [Int.mul_right_comm a d f] at g2
  refine ⟨Int.le_of_mul_le_mul_right (Int.le_trans g1 g2) hd, fun he => ?_⟩
  rw [he] at g1
  have e1 : c * b * f = a * f * d := Int.le_antisymm g2 g1
  have e2 : c * b * f = a * d * f := by rw [e1, Int.mul_right_comm]
  have e3 : c * b = a * d := Int.eq_of_mul_eq_mul_right (Int.ne_of_gt hf) e2
  refine ⟨e3, ?_⟩
  have e4 : e * d * b = c * f * b := by rw [Int.mul_right_comm e d b, he, Int.mul_right_comm c f b, e1]
  exact Int.eq_of_mul_eq_mul_right (Int.ne_of_gt hb) e4
theorem ltr_iff {V B : Nat → Int} {i j : Nat} : ltr V B i j = true ↔ (V j * B i < V i * B j ∨ (V i * B j = V j * B i ∧ i < j)) := by simp [ltr]
theorem ltr_irr (V B : Nat → Int) (i : Nat) : ltr V B i i = false := by
  rw [← Bool.not_eq_true, ltr_iff]; omega
theorem ltr_asy {V B : Nat → Int} {i j : Nat} (h : ltr V B i j = true) : ltr V B j i = false := by
  rw [← Bool.not_eq_true, ltr_iff]; rw [ltr_iff] at h; omega
theorem ltr_tot (V B : Nat → Int) {i j : Nat} (h : i ≠ j) (h2 : ltr V B i j = false) : ltr V B j i = true := by
  rw [← Bool.not_eq_true, ltr_iff] at h2; rw [ltr_iff]; omega
theorem ltr_tr {n : Nat} {V B N : Nat → Int} (hW : WF n V B N) {i j k : Nat} (hi : i < n) (hj : j < n) (hk : k < n) (h1 : ltr V B i j = true) (h2 : ltr V B j k = true) : ltr V B i k = true := by
  rw [ltr_iff] at h1 h2 ⊢
  have wi := (hW.2 i hi).2.1.1
  have wj := (hW.2 j hj).2.1.1
  have wk := (hW.2 k hk).2.1.1
  obtain ⟨c1, c2⟩ := cross (a := V i) (b := B i) (c := V j) (d := B j) (e := V k) (f := B k) (by omega) (by omega) (by omega) (by omega) (by omega)
  by_cases he : V k * B i = V i * B k
  · have := c2 he
    omega
  · omega
theorem latU_spec {n : Nat} {V B N : Nat → Int} (hW : WF n V B N) (m : Int) : ∀ k, k ≤ n → (latU V B m k = -1 ∧ ∀ j, j < k → hasB m j = false) ∨ ∃ b : Nat, b < k ∧ latU V B m k = b ∧ hasB m b = true ∧ ∀ j, j < k → hasB m j = true → j = b ∨ ltr V B b j = true
  | 0, _ => Or.inl ⟨rfl, fun j hj => by omega⟩
  | k + 1, hk => by
    have ih := latU_spec hW m k (by omega)
    unfold latU
    by_cases hm : hasB m k = true
    · rcases ih with ⟨e, hn⟩ | ⟨b, hb, e, hh, hmax⟩
      · refine Or.inr ⟨k, by omega, by simp [hm, e], hm, fun j hj hj2 => ?_⟩
        by_cases hjk : j = k
        · exact Or.inl hjk
        · rw [hn j (by omega)] at hj2; cases hj2
      · by_cases hl : ltr V B k b = true
        · refine Or.inr ⟨k, by omega, by simp [hm, e, hl], hm, fun j hj hj2 => ?_⟩
          by_cases hjk : j = k
          · exact Or.inl hjk
          · rcases hmax j (by omega) hj2 with rfl | h
            · exact Or.inr hl
            · exact Or.inr (ltr_tr hW (by omega) (by omega) (by omega) hl h)
        · have hl2 : ltr V B k b = false := by simpa using hl
          refine Or.inr ⟨b, by omega, ?_, hh, fun j hj hj2 => ?_⟩
          · simp [hm, e, hl2]
          · by_cases hjk : j = k
            · subst hjk
              exact Or.inr (ltr_tot V B (by omega) hl2)
            · exact hmax j (by omega) hj2
    · have hm2 : hasB m k = false := by simpa using hm
      rw [hm2]
      simp only [Bool.false_and]
      rcases ih with ⟨e, hn⟩ | ⟨b, hb, e, hh, hmax⟩
      · exact Or.inl ⟨by simpa using e, fun j hj => by
          by_cases hjk : j = k
          · subst hjk; exact hm2
          · exact hn j (by omega)⟩
      · refine Or.inr ⟨b, by omega, by simpa using e, hh, fun j hj hj2 => ?_⟩
        by_cases hjk : j = k
        · subst hjk; rw [hm2] at hj2; cases hj2
        · exact hmax j (by omega) hj2
/-- how many of those below n hold -/
def cnt (p : Nat → Bool) : Nat → Nat
  | 0 => 0
  | k + 1 => cnt p k + (if p k then 1 else 0)
theorem cnt_le (p : Nat → Bool) : ∀ k, cnt p k ≤ k
  | 0 => Nat.le_refl _
  | k + 1 => by have := cnt_le p k; unfold cnt; split <;> omega
theorem cnt_mono {p q : Nat → Bool} : ∀ {k : Nat}, (∀ j, j < k → p j = true → q j = true) → cnt p k ≤ cnt q k
  | 0, _ => Nat.le_refl _
  | k + 1, h => by
    have ih := cnt_mono (k := k) (fun j hj => h j (by omega))
    have hk := h k (by omega)
    unfold cnt
    by_cases hp : p k = true
    · simp [hp, hk hp]; exact ih
    · simp [hp]; omega
theorem cnt_lt {p q : Nat → Bool} {b : Nat} : ∀ {k : Nat}, (∀ j, j < k → p j = true → q j = true) → b < k → q b = true → p b = false → cnt p k < cnt q k
  | 0, _, hb, _, _ => by omega
  | k + 1, h, hb, h1, h2 => by
    unfold cnt
    by_cases hbk : b = k
    · subst hbk
      have := cnt_mono (k := b) (fun j hj => h j (by omega))
      simp [h1, h2]; omega
    · have ih := cnt_lt (b := b) (k := k) (fun j hj => h j (by omega)) (by omega) h1 h2
      have hk := h k (by omega)
      by_cases hp : p k = true
      · simp [hp, hk hp]; exact ih
      · simp [hp]; omega
/-- how many are later than a -/
def rnk (V B : Nat → Int) (n a : Nat) : Nat := cnt (fun j => ltr V B j a) n
theorem rnk_lt {n : Nat} {V B N : Nat → Int} (hW : WF n V B N) {a b : Nat} (ha : a < n) (hb : b < n) (h : ltr V B b a = true) : rnk V B n b < rnk V B n a :=
  cnt_lt (b := b) (fun j hj h2 => ltr_tr hW hj hb ha h2 h) hb h (ltr_irr V B b)
theorem rnk_n {n : Nat} {V B N : Nat → Int} (hW : WF n V B N) {a : Nat} (ha : a < n) : rnk V B n a < 10 := by
  have h1 : cnt (fun j => ltr V B j a) n < cnt (fun _ => true) n := cnt_lt (b := a) (fun _ _ _ => rfl) ha rfl (ltr_irr V B a)
  have h2 := cnt_le (fun _ => true) n
  have h3 := hW.1
  unfold rnk
  omega
/-- who is not a top has a later neighbour: its latest -/
theorem topR_no {n : Nat} {V B N : Nat → Int} (hW : WF n V B N) {a : Nat} (ha : a < n) (h : topR V B N n a = false) : ∃ b : Nat, b < n ∧ latU V B (N a) n = b ∧ ltr V B b a = true := by
  simp only [topR, Bool.or_eq_false_iff, decide_eq_false_iff_not] at h
  rcases latU_spec hW (N a) n (Nat.le_refl _) with ⟨e, -⟩ | ⟨b, hb, e, hh, -⟩
  · exact absurd e h.1
  · refine ⟨b, hb, e, ltr_tot V B ?_ (by have := h.2; rw [e] at this; exact this)⟩
    intro hab
    subst hab
    rw [(hW.2 a ha).2.2.2] at hh
    cases hh
theorem topR_yes {n : Nat} {V B N : Nat → Int} (hW : WF n V B N) {a : Nat} (ha : a < n) : topR V B N n a = true ↔ ∀ j, j < n → hasB (N a) j = true → ltr V B j a = false := by
  rcases latU_spec hW (N a) n (Nat.le_refl _) with ⟨e, hn⟩ | ⟨b, hb, e, hh, hmax⟩
  · simp only [topR, e]
    exact ⟨fun _ j hj h2 => (by rw [hn j hj] at h2; cases h2), fun _ => by simp⟩
  · have hab : a ≠ b := by
      intro hab; subst hab
      rw [(hW.2 a ha).2.2.2] at hh
      cases hh
    constructor
    · intro ht j hj h2
      have hab2 : ltr V B a b = true := by
        simp only [topR, e, Bool.or_eq_true, decide_eq_true_eq] at ht
        rcases ht with h | h
        · omega
        · exact h
      rcases hmax j hj h2 with rfl | h
      · exact ltr_asy hab2
      · exact ltr_asy (ltr_tr hW ha hb hj hab2 h)
    · intro h
      have := ltr_tot V B hab.symm (h b hb hh)
      simp [topR, e, this]
/-- climbing -/
def clm (V B N : Nat → Int) (n : Nat) : Nat → Nat → Nat × Nat
  | 0, a => (a, 0)
  | f + 1, a => if topR V B N n a then (a, 0) else ((clm V B N n f (latU V B (N a) n).toNat).1, (clm V B N n f (latU V B (N a) n).toNat).2 + 1)
theorem clm_in {n : Nat} {V B N : Nat → Int} (hW : WF n V B N) : ∀ f a, a < n → (clm V B N n f a).1 < n
  | 0, a, ha => ha
  | f + 1, a, ha => by
    unfold clm
    by_cases h : topR V B N n a = true
    · rw [if_pos h]; exact ha
    · rw [if_neg h]
      obtain ⟨b, hb, e, -⟩ := topR_no hW ha (by simpa using h)
      rw [e]
      exact clm_in hW f b hb
theorem clm_r {n : Nat} {V B N : Nat → Int} (f a : Nat) : (clm V B N n f a).2 ≤ f := by
  induction f generalizing a with
  | zero => exact Nat.le_refl _
  | succ f ih => unfold clm; split; exact Nat.zero_le _; have := ih (latU V B (N a) n).toNat; show _ + 1 ≤ _; omega
theorem clm_top {n : Nat} {V B N : Nat → Int} (hW : WF n V B N) : ∀ f a, a < n → rnk V B n a < f → topR V B N n (clm V B N n f a).1 = true
  | 0, a, _, h => by omega
  | f + 1, a, ha, h => by
    unfold clm
    by_cases ht : topR V B N n a = true
    · rw [if_pos ht]; exact ht
    · rw [if_neg ht]
      obtain ⟨b, hb, e, hl⟩ := topR_no hW ha (by simpa using ht)
      rw [e]
      exact clm_top hW f b hb (by have := rnk_lt hW ha hb hl; omega)
