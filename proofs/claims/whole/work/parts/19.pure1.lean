theorem b2i_pos {p : Prop} [Decidable p] (h : p) : b2i (decide p) = 1 := by simp [b2i, h]
theorem b2i_neg {p : Prop} [Decidable p] (h : ¬ p) : b2i (decide p) = 0 := by simp [b2i, h]
def hasB (m k : Int) : Bool := decide (m / 2 ^ k.toNat % 2 = 1)
/-- i is later than j -/
def ltr (V B : Nat → Int) (i j : Nat) : Bool := decide (V j * B i < V i * B j ∨ (V i * B j = V j * B i ∧ i < j))
/-- the latest of a set, among those below k -/
def latU (V B : Nat → Int) (m : Int) : Nat → Int
  | 0 => -1
  | k + 1 => if hasB m k && (decide (latU V B m k = -1) || ltr V B k (latU V B m k).toNat) then (k : Int) else latU V B m k
theorem latU_r (V B : Nat → Int) (m : Int) : ∀ k, -1 ≤ latU V B m k ∧ latU V B m k < k
  | 0 => by simp [latU]
  | k + 1 => by
    have h := latU_r V B m k
    unfold latU
    split <;> omega
def topR (V B N : Nat → Int) (n i : Nat) : Bool := decide (latU V B (N i) n = -1) || ltr V B i (latU V B (N i) n).toNat
theorem or_lt {a b k : Nat} (ha : a < 2 ^ k) (hb : b < 2 ^ k) : a ||| b < 2 ^ k := Nat.or_lt_two_pow ha hb
theorem pow_lt {k : Nat} : 2 ^ k < 2 ^ (k + 1) := Nat.pow_lt_pow_right (by decide) (by omega)
def onesU (x : Int) : Nat → Int
  | 0 => 0
  | k + 1 => onesU x k + x / 2 ^ k % 2
theorem onesU_r (x : Int) : ∀ k, 0 ≤ onesU x k ∧ onesU x k ≤ k
  | 0 => by simp [onesU]
  | k + 1 => by
    have h := onesU_r x k
    unfold onesU
    have h1 := Int.emod_nonneg (x / 2 ^ k) (by decide : (2 : Int) ≠ 0)
    have h2 := Int.emod_lt_of_pos (x / 2 ^ k) (by decide : (0 : Int) < 2)
    omega
/-- a casting that is well told -/
def WF (n : Nat) (V B N : Nat → Int) : Prop := n ≤ 10 ∧ ∀ i, i < n → (1 ≤ V i ∧ V i ≤ 99) ∧ (1 ≤ B i ∧ B i ≤ 189) ∧ (0 ≤ N i ∧ N i < 1024) ∧ hasB (N i) i = false
/-- the reference's view of a casting -/
def RV (σ α : St) (n : Nat) (V B N : Nat → Int) : Prop := σ 95 1 = n ∧ ∀ i, i < n → α 97 i = V i ∧ α 98 i + 10 * α 96 (19 + i) = B i ∧ α 99 i = N i
theorem prod_b {x y a b : Int} (hx : 0 ≤ x ∧ x ≤ a) (hy : 0 ≤ y ∧ y ≤ b) : 0 ≤ x * y ∧ x * y ≤ a * b := ⟨Int.mul_nonneg hx.1 hy.1, Int.mul_le_mul hx.2 hy.2 hy.1 (by omega)⟩
theorem div_pow_nn {x : Int} (hx : 0 ≤ x) (k : Nat) : 0 ≤ x / 2 ^ k := Int.ediv_nonneg hx (Int.le_of_lt (Int.pow_pos (by decide)))
