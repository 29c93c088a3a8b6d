/-- the class behind remember -/
def rmS (σ : St) (x z : Nat) : St := uS (uS (fcS σ (29 + 5 * x) 22) 27 1 (((x : Int) + 1) % 8)) 27 2 (if 8 < (z : Int) + 1 then 8 else (z : Int) + 1)
def rmA (α : St) (x : Nat) : St := fcA α (29 + 5 * x) 22
theorem rmS_at (σ : St) (x z : Nat) {q : Nat} (hq : q < 27) : rmS σ x z q = σ q := by
  unfold rmS fcS
  rw [uS_row _ _ (by omega), uS_row _ _ (by omega), uS_row _ _ (by omega)]
theorem rmA_at (α : St) (x : Nat) {q : Nat} (hq : q < 29) : rmA α x q = α q := by
  unfold rmA fcA
  rw [uA_ne _ _ (by omega), uA_ne _ _ (by omega), uA_ne _ _ (by omega), uA_ne _ _ (by omega)]
theorem qX2_rem (σ α : St) (x z : Nat) (hx : σ 27 1 = x) (hx8 : x < 8) (hz : σ 27 2 = z) (hz8 : z ≤ 8) : CF 3 mX2_remember [vR 27, vR 22] σ α none (rmS σ x z) (rmA α x) := qX2_remember σ α x z hx hx8 hz hz8
