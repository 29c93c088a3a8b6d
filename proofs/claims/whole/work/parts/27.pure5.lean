def Agm (α α1 : St) : Prop := ∀ q, q < 72 ∨ 77 < q → α1 q = α q
theorem Agm.rf (α : St) : Agm α α := fun _ _ => rfl
theorem Agm.put {α α1 : St} (h : Agm α α1) {q : Nat} (hq : 72 ≤ q ∧ q ≤ 77) (f : Nat → Int) : Agm α (uA α1 q f) := by
  intro p hp
  rw [uA_ne _ _ (by omega)]
  exact h p hp
/-- the melt is settled -/
def KS (σ α : St) (n : Nat) (V B N : Nat → Int) (c : Int) : Prop := KV σ α n V B N ∧ ∀ i, i < n → α 74 i = ((clm V B N n 10 i).1 : Int) ∧ α 75 i = ((clm V B N n 10 i).2 : Int) ∧ α 76 i = dIn c V B N n i ∧ α 77 i = (hdC c V B N n 10 i : Int)
/-- the plan that is told, and the chills now -/
def PV (σ α : St) (n : Nat) (V B N : Nat → Int) (c : Int) : Prop := σ 3 4 = n ∧ σ 3 7 = c ∧ (0 ≤ c ∧ c ≤ 100) ∧ ∀ i, i < n → α 4 i = V i ∧ α 5 i + 10 * α 23 i = B i ∧ α 6 i = N i
/-- the risers now -/
def RK (σ α : St) (n m : Nat) : Prop := σ 22 4 = m ∧ m ≤ 6 ∧ ∀ r, r < m → (0 ≤ α 24 r ∧ α 24 r < n) ∧ (1 ≤ α 25 r ∧ α 25 r ≤ 99) ∧ (1 ≤ α 26 r ∧ α 26 r ≤ 99)
def RP (σ : St) (a b : Int) : Prop := σ 3 5 = a ∧ σ 3 6 = b ∧ (1 ≤ a ∧ a ≤ 99) ∧ (1 ≤ b ∧ b ≤ 99)
def rkU (V B : Nat → Int) (s : Nat) : Nat → Int
  | 0 => 0
  | k + 1 => rkU V B s k + (if decide (k ≠ s) && ltr V B s k then 1 else 0)
theorem rkU_r (V B : Nat → Int) (s : Nat) : ∀ k, 0 ≤ rkU V B s k ∧ rkU V B s k ≤ k
  | 0 => by simp [rkU]
  | k + 1 => by have := rkU_r V B s k; unfold rkU; split <;> omega
/-- the fewest risers: the first set below k of fewer bits than those ahead of it -/
def fewU (F : Nat → Nat) (all : Nat) (most : Int) : Nat → Nat
  | 0 => all
  | k + 1 => if onesU k 10 < onesU (fewU F all most k) 10 ∧ onesU (F k) 10 = most then k else fewU F all most k
theorem fewU_r (F : Nat → Nat) (all : Nat) (most : Int) : ∀ k, fewU F all most k < k ∨ fewU F all most k = all
  | 0 => Or.inr rfl
  | k + 1 => by
    have := fewU_r F all most k
    unfold fewU; split
    · omega
    · omega
def chB (B K C : Nat → Int) (i : Nat) (c : Int) : Nat → Int := uF B i (K i + 10 * (if 9 < C i + c then 9 else C i + c))
def tcU (V B N K C : Nat → Int) (n : Nat) (c : Int) (i : Nat) : Int := onesU (msk (topR V (chB B K C i c) N n) n : Nat) 10
def bstK (t : Nat → Int) : Nat → Int × Int
  | 0 => (-1, 11)
  | k + 1 => if t k < (bstK t k).2 then ((k : Int), t k) else bstK t k
theorem bstK_r (t : Nat → Int) (ht : ∀ k, 0 ≤ t k ∧ t k ≤ 10) : ∀ k, (-1 ≤ (bstK t k).1 ∧ (bstK t k).1 < k) ∧ (0 ≤ (bstK t k).2 ∧ (bstK t k).2 ≤ 11)
  | 0 => by simp [bstK]
  | k + 1 => by
    have := bstK_r t ht k
    have := ht k
    unfold bstK; split
    · simp; omega
    · omega
theorem gcd_le {x y : Int} (hx : 1 ≤ x) : 1 ≤ (Int.gcd x y : Int) ∧ (Int.gcd x y : Int) ≤ x := by
  have h1 : Int.gcd x y ∣ x.natAbs := Int.gcd_dvd_natAbs_left x y
  have h2 := Nat.le_of_dvd (by omega) h1
  have h3 : 0 < Int.gcd x y := Nat.pos_of_dvd_of_pos h1 (by omega)
  omega
theorem gcd_of {x y d : Int} (hx : 1 ≤ x) (hy : 0 ≤ y) (hd : 1 ≤ d) (h1 : x % d = 0) (h2 : y % d = 0) (hle : (Int.gcd x y : Int) ≤ d) : (Int.gcd x y : Int) = d := by
  have g : d ∣ (Int.gcd x y : Int) := Int.dvd_coe_gcd (Int.dvd_of_emod_eq_zero h1) (Int.dvd_of_emod_eq_zero h2)
  have := Int.le_of_dvd (by have := gcd_le (y := y) hx; omega) g
  omega
theorem gcd_not {x y d : Int} (h : ¬ (x % d = 0 ∧ y % d = 0)) : (Int.gcd x y : Int) ≠ d := by
  rintro rfl
  exact h ⟨Int.emod_eq_zero_of_dvd (Int.gcd_dvd_left x y), Int.emod_eq_zero_of_dvd (Int.gcd_dvd_right x y)⟩
