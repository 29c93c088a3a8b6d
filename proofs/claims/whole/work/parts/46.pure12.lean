/-- the reference's row and count behind keepPast -/
def kpR (R : Nat → Int) (u : Nat) : Nat → Int := if u = 8 then cpR (cpR R 58 29 203) 0 232 29 else cpR R 0 (29 + 29 * u) 29
def kpU (u : Nat) : Nat := if u = 8 then 8 else u + 1
theorem kpR_lo (R : Nat → Int) {u i : Nat} (hi : i < 29) : kpR R u i = R i := by
  unfold kpR
  split
  · rw [cpR_out _ (by omega), cpR_out _ (by omega)]
  · rw [cpR_out _ (by omega)]
theorem qX8_keepPast (σ α : St) (u : Nat) (hu : σ 95 8 = u) (hu8 : u ≤ 8) : CF 1 mX8_keepPast [vR 95] σ α none (uS σ 95 8 (kpU u : Int)) (uA α 96 (kpR (α 96) u)) := by
  by_cases h : u = 8
  · subst h
    exact qX8_keepPast_b σ α hu
  · rw [kpU, kpR, if_neg h, if_neg h]
    exact qX8_keepPast_a σ α u hu (by omega)
/-- a riser less in the reference's row: those from r on are shifted as far as j -/
def tkR (R : Nat → Int) (m : Int) (r j : Nat) : Nat → Int := fun i => if i = 0 then m else if (1 + r ≤ i ∧ i < 1 + j) ∨ (7 + r ≤ i ∧ i < 7 + j) ∨ (13 + r ≤ i ∧ i < 13 + j) then R (i + 1) else R i
theorem tkR_0 (R : Nat → Int) (m : Int) (r : Nat) : tkR R m r r = uF R 0 m := by
  funext i
  unfold tkR uF
  by_cases h : i = 0
  · rw [if_pos h, if_pos h]
  · rw [if_neg h, if_neg h, if_neg (by omega)]
theorem tkR_s (R : Nat → Int) (m : Int) {r k : Nat} (hr : r ≤ k) (hk : k < 5) : uF (uF (uF (tkR R m r k) (1 + k) (R (2 + k))) (7 + k) (R (8 + k))) (13 + k) (R (14 + k)) = tkR R m r (k + 1) := by
  funext i
  unfold uF tkR
  by_cases h1 : i = 13 + k
  · subst h1
    rw [if_pos rfl, if_neg (by omega), if_pos (by omega), show 13 + k + 1 = 14 + k by omega]
  · rw [if_neg h1]
    by_cases h2 : i = 7 + k
    · subst h2
      rw [if_pos rfl, if_neg (by omega), if_pos (by omega), show 7 + k + 1 = 8 + k by omega]
    · rw [if_neg h2]
      by_cases h3 : i = 1 + k
      · subst h3
        rw [if_pos rfl, if_neg (by omega), if_pos (by omega), show 1 + k + 1 = 2 + k by omega]
      · rw [if_neg h3]
        by_cases h4 : i = 0
        · rw [if_pos h4, if_pos h4]
        · rw [if_neg h4, if_neg h4]
          by_cases h5 : (1 + r ≤ i ∧ i < 1 + k) ∨ (7 + r ≤ i ∧ i < 7 + k) ∨ (13 + r ≤ i ∧ i < 13 + k)
          · rw [if_pos h5, if_pos (by omega)]
          · rw [if_neg h5, if_neg (by omega)]
theorem tkR_out (R : Nat → Int) (m : Int) {r j i : Nat} (h0 : i ≠ 0) (h : ¬ ((1 + r ≤ i ∧ i < 1 + j) ∨ (7 + r ≤ i ∧ i < 7 + j) ∨ (13 + r ≤ i ∧ i < 13 + j))) : tkR R m r j i = R i := by
  unfold tkR
  rw [if_neg h0, if_neg h]
