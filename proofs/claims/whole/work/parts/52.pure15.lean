/-- the reference's heads may have changed, nothing else -/
def Hd (α a' : St) : Prop := ∃ f, a' = uA α 107 f
theorem Hd.rf (α : St) : Hd α α := ⟨α 107, (uA_id α 107).symm⟩
theorem Hd.lh (c : Int) (V B N : Nat → Int) (n : Nat) (α : St) : Hd α (LH c V B N n α) := ⟨_, rfl⟩
def secU (v k c nb bb : Int) (tp : Bool) (t s : Int) (f : Int) : Int := if f = 0 then v else if f = 1 then k else if f = 2 then c else if f = 3 then nb else if f = 4 then v / (Int.gcd v bb : Int) else if f = 5 then bb / (Int.gcd v bb : Int) else if f = 6 then b2i tp else if f = 7 then t else if f = 8 then s else -3
theorem secU_o {v k c nb bb : Int} {tp : Bool} {t s f : Int} (h : f < 0 ∨ 8 < f) : secU v k c nb bb tp t s f = -3 := by
  unfold secU
  rw [if_neg (by omega), if_neg (by omega), if_neg (by omega), if_neg (by omega), if_neg (by omega), if_neg (by omega), if_neg (by omega), if_neg (by omega), if_neg (by omega)]
def topU (bs dr hd fd f : Int) : Int := if f = 0 then bs else if f = 1 then dr else if f = 2 then hd else if f = 4 then fd else if fd = -1 then 0 else 1
def risU (o v s st f : Int) : Int := if f = 0 then o else if f = 1 then v else if f = 2 then s else if f = 3 then st else -3
theorem risU_o {o v s st f : Int} (h : f < 0 ∨ 3 < f) : risU o v s st f = -3 := by
  unfold risU
  rw [if_neg (by omega), if_neg (by omega), if_neg (by omega), if_neg (by omega)]
def cntU (x0 x1 x2 x3 x4 x5 x7 x8 x9 x10 x11 x12 f : Int) : Int := if f = 0 then x0 else if f = 1 then x1 else if f = 2 then x2 else if f = 3 then x3 else if f = 4 then x4 else if f = 5 then x5 else if f = 6 then (if x5 = x3 then 1 else 0) else if f = 7 then x7 else if f = 8 then x8 else if f = 9 then x9 else if f = 10 then x10 else if f = 11 then x11 else if f = 12 then x12 else -3
theorem cntU_o {x0 x1 x2 x3 x4 x5 x7 x8 x9 x10 x11 x12 f : Int} (h : f < 0 ∨ 12 < f) : cntU x0 x1 x2 x3 x4 x5 x7 x8 x9 x10 x11 x12 f = -3 := by
  unfold cntU
  rw [if_neg (by omega), if_neg (by omega), if_neg (by omega), if_neg (by omega), if_neg (by omega), if_neg (by omega), if_neg (by omega), if_neg (by omega), if_neg (by omega), if_neg (by omega), if_neg (by omega), if_neg (by omega), if_neg (by omega)]
/-- all things of the bins below k -/
def atU (S : Nat → Int) : Nat → Int
  | 0 => 0
  | k + 1 => atU S k + (if S k < 0 then 0 else S k)
theorem atU_r {S : Nat → Int} (h : ∀ t, t < 3 → S t ≤ 1000) : ∀ k, k ≤ 3 → 0 ≤ atU S k ∧ atU S k ≤ 1000 * k
  | 0, _ => by simp [atU]
  | k + 1, hk => by
    have := atU_r h k (by omega)
    have := h k (by omega)
    unfold atU; split <;> omega
theorem ones_all : ∀ m, m < 7 → ∀ x, x < 2 ^ m - 1 → onesU (x : Nat) 10 < onesU (2 ^ m - 1 : Nat) 10 := by decide +kernel
/-- the fewest risers: what a later set changes -/
theorem fewU_step (F : Nat → Nat) (all : Nat) (most : Int) (j : Nat) : ∀ i, fewU F all most (j + i) = fewU F all most j ∨ onesU (fewU F all most (j + i) : Nat) 10 < onesU (fewU F all most j : Nat) 10
  | 0 => Or.inl rfl
  | i + 1 => by
    have ih := fewU_step F all most j i
    rw [show j + (i + 1) = (j + i) + 1 by omega, fewU]
    by_cases h : onesU (j + i : Nat) 10 < onesU (fewU F all most (j + i) : Nat) 10 ∧ onesU (F (j + i) : Nat) 10 = most
    · rw [if_pos h]
      right
      have := h.1
      rcases ih with e | e
      · rw [e] at this; exact this
      · omega
    · rw [if_neg h]; exact ih
/-- the reference's second look changes nothing -/
theorem fewU_noop {F : Nat → Nat} {m : Nat} {most : Int} (hm : m ≤ 6) {j : Nat} (hj : j < fewU F (2 ^ m - 1) most (2 ^ m)) : ¬ (onesU (j : Nat) 10 = onesU (fewU F (2 ^ m - 1) most (2 ^ m) : Nat) 10 ∧ onesU (F j : Nat) 10 = most) := by
  intro ⟨h1, h2⟩
  have hp : 1 ≤ 2 ^ m := Nat.two_pow_pos m
  have hr := fewU_r F (2 ^ m - 1) most (2 ^ m)
  have hjm : j < 2 ^ m - 1 := by omega
  have ha := ones_all m (by omega) j hjm
  have hs := fewU_step F (2 ^ m - 1) most (j + 1) (2 ^ m - (j + 1))
  rw [show j + 1 + (2 ^ m - (j + 1)) = 2 ^ m by omega] at hs
  have hrj := fewU_r F (2 ^ m - 1) most j
  have e : fewU F (2 ^ m - 1) most (j + 1) = if onesU (j : Nat) 10 < onesU (fewU F (2 ^ m - 1) most j : Nat) 10 ∧ onesU (F j : Nat) 10 = most then j else fewU F (2 ^ m - 1) most j := rfl
  by_cases h : onesU (j : Nat) 10 < onesU (fewU F (2 ^ m - 1) most j : Nat) 10
  · rw [if_pos ⟨h, h2⟩] at e
    rcases hs with e2 | e2
    · rw [e] at e2; omega
    · rw [e] at e2; omega
  · rw [if_neg (by intro q; exact h q.1)] at e
    rcases hrj with q | q
    · rcases hs with e2 | e2
      · rw [e] at e2; omega
      · rw [e] at e2; omega
    · rw [q] at h; exact h ha
theorem fewU_last {F : Nat → Nat} {m : Nat} {most : Int} (hm : m ≤ 6) : fewU F (2 ^ m - 1) most (2 ^ m) = fewU F (2 ^ m - 1) most (2 ^ m - 1) := by
  have hp : 1 ≤ 2 ^ m := Nat.two_pow_pos m
  rw [show fewU F (2 ^ m - 1) most (2 ^ m) = fewU F (2 ^ m - 1) most (2 ^ m - 1 + 1) by rw [Nat.sub_add_cancel hp], fewU, if_neg]
  intro ⟨h, _⟩
  rcases fewU_r F (2 ^ m - 1) most (2 ^ m - 1) with q | q
  · have := ones_all m (by omega) _ q; omega
  · rw [q] at h; omega
/-- the reference's best, folded -/
def bstR (t : Nat → Int) (k : Nat) : Int × Int := if k = 0 then (-1, -1) else bstK t k
theorem bstK_n {t : Nat → Int} (ht : ∀ k, 0 ≤ t k ∧ t k ≤ 10) : ∀ k, 0 < k → 0 ≤ (bstK t k).1
  | 0, h => by omega
  | k + 1, _ => by
    rw [bstK]
    by_cases h : t k < (bstK t k).2
    · rw [if_pos h]; show (0 : Int) ≤ k; omega
    · rw [if_neg h]
      by_cases h0 : k = 0
      · subst h0; exact absurd (show t 0 < 11 by have := ht 0; omega) h
      · exact bstK_n ht k (by omega)
theorem bstR_y {t : Nat → Int} (ht : ∀ k, 0 ≤ t k ∧ t k ≤ 10) {k : Nat} (h : (bstR t k).1 = -1 ∨ t k < (bstR t k).2) : bstR t (k + 1) = ((k : Int), t k) := by
  have hk := ht k
  unfold bstR at h ⊢
  rw [if_neg (by omega), bstK, if_pos]
  by_cases h0 : k = 0
  · subst h0; show t 0 < 11; omega
  · rw [if_neg h0] at h
    have := bstK_n ht k (by omega)
    omega
theorem bstR_n {t : Nat → Int} {k : Nat} (h1 : ¬ (bstR t k).1 = -1) (h2 : ¬ t k < (bstR t k).2) : bstR t (k + 1) = bstR t k := by
  unfold bstR at h1 h2 ⊢
  by_cases h0 : k = 0
  · rw [if_pos h0] at h1; exact absurd rfl h1
  · rw [if_neg h0] at h2
    rw [if_neg (by omega), if_neg h0, bstK, if_neg h2]
theorem bstR_r {t : Nat → Int} (ht : ∀ k, 0 ≤ t k ∧ t k ≤ 10) (k : Nat) : (-1 ≤ (bstR t k).1 ∧ (bstR t k).1 < k) ∧ (-1 ≤ (bstR t k).2 ∧ (bstR t k).2 ≤ 11) := by
  have := bstK_r t ht k
  unfold bstR
  by_cases h0 : k = 0
  · rw [if_pos h0]; subst h0; decide
  · rw [if_neg h0]; omega
