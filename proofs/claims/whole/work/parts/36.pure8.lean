theorem CG.mono {d : Nat} {M : Mi} {av : List AV} {σ α : St} {post post' : Pq} (h : CG d M av σ α post) (hp : ∀ r s a, post r s a → post' r s a) : CG d M av σ α post' := by
  intro E ad sz p e ha hc hk s m args below hf happ hP hK
  obtain ⟨n, o, h1, h2, h3, ⟨⟨r, L', ad', σ', α', g1, ⟨g2, g3⟩, g4⟩, g5⟩, g6⟩ := h E ad sz p e ha hc hk s m args below hf happ hP hK
  exact ⟨n, o, h1, h2, h3, ⟨⟨r, L', ad', σ', α', g1, ⟨g2, hp _ _ _ g3⟩, g4⟩, g5⟩, g6⟩
def isBinO (p : Nat) : Prop := LA[p]? = some (yO 0 [p + 3, 0, 0, 0]) ∧ LA[p + 1]? = some (yA 0 8)
theorem isBin_at : ∀ k : Nat, k < 3 → isBinO (89 + 2 * k)
  | 0, _ => ⟨rfl, rfl⟩
  | 1, _ => ⟨rfl, rfl⟩
  | 2, _ => ⟨rfl, rfl⟩
  | k + 3, h => absurd h (by omega)
theorem bins_at : ∀ k : Nat, k < 3 → [91, 93, 95][(k : Int).toNat]? = some (89 + 2 * k + 2) := by decide
def adR (ms kd kk z : Int) : Int := if ms = 0 then (if kd = kk then (if z < 8 then z + 1 else -14) else -12) else -11
def adS (σ : St) (p : Nat) (ms kd kk z : Int) : St := if ms = 0 ∧ kd = kk ∧ z < 8 then uS σ p 3 (z + 1) else σ
def adA (α : St) (p : Nat) (ms kd kk z x : Int) : St := if ms = 0 ∧ kd = kk ∧ z < 8 then uA α (p + 1) (uF (α (p + 1)) z.toNat x) else α
def alR (m1 m2 k1 k2 z1 z2 : Int) : Int := if m1 = 0 ∧ m2 = 0 then (if k1 = k2 then (if z1 + z2 ≤ 8 then z1 + z2 else -14) else -12) else -11
def alS (σ : St) (p : Nat) (m1 m2 k1 k2 z1 z2 : Int) : St := if m1 = 0 ∧ m2 = 0 ∧ k1 = k2 ∧ z1 + z2 ≤ 8 then uS σ p 3 (z1 + z2) else σ
def alA (α : St) (p q : Nat) (m1 m2 k1 k2 z1 z2 : Int) : St := if m1 = 0 ∧ m2 = 0 ∧ k1 = k2 ∧ z1 + z2 ≤ 8 then uA α (p + 1) (va_cpy (α (q + 1)) (α (p + 1)) 0 z1.toNat z2.toNat) else α
def maxU (f : Nat → Int) : Nat → Int
  | 0 => f 0
  | k + 1 => if maxU f k < f (k + 1) then f (k + 1) else maxU f k
def minU (f : Nat → Int) : Nat → Int
  | 0 => f 0
  | k + 1 => if f (k + 1) < minU f k then f (k + 1) else minU f k
theorem maxU_r (f : Nat → Int) (hf : ∀ j, j < 8 → 0 ≤ f j ∧ f j ≤ 30000) : ∀ k, k < 8 → 0 ≤ maxU f k ∧ maxU f k ≤ 30000
  | 0, h => hf 0 h
  | k + 1, h => by have := maxU_r f hf k (by omega); have := hf (k + 1) h; unfold maxU; split <;> omega
theorem minU_r (f : Nat → Int) (hf : ∀ j, j < 8 → 0 ≤ f j ∧ f j ≤ 30000) : ∀ k, k < 8 → 0 ≤ minU f k ∧ minU f k ≤ 30000
  | 0, h => hf 0 h
  | k + 1, h => by have := minU_r f hf k (by omega); have := hf (k + 1) h; unfold minU; split <;> omega
def sumU (f : Nat → Int) : Nat → Int
  | 0 => 0
  | k + 1 => sumU f k + f k
theorem sumU_r (f : Nat → Int) (hf : ∀ j, j < 8 → 0 ≤ f j ∧ f j ≤ 30000) : ∀ k, k ≤ 8 → 0 ≤ sumU f k ∧ sumU f k ≤ 30000 * k
  | 0, _ => by simp [sumU]
  | k + 1, h => by have := sumU_r f hf k (by omega); have := hf k (by omega); unfold sumU; omega
/-- insertion: v goes down from place k -/
def insU (v : Int) : Nat → (Nat → Int) → (Nat → Int)
  | 0, f => uF f 0 v
  | k + 1, f => if v < f k then insU v k (uF f (k + 1) (f k)) else uF f (k + 1) v
def srtU (f : Nat → Int) : Nat → (Nat → Int)
  | 0 => f
  | k + 1 => insU (srtU f k (k + 1)) (k + 1) (srtU f k)
theorem insU_r {v : Int} (hv : 0 ≤ v ∧ v ≤ 30000) : ∀ (k : Nat) (f : Nat → Int), (∀ j, j < 8 → 0 ≤ f j ∧ f j ≤ 30000) → k < 8 → ∀ j, j < 8 → 0 ≤ insU v k f j ∧ insU v k f j ≤ 30000
  | 0, f, hf, _, j, hj => by
    unfold insU uF
    split
    · exact hv
    · exact hf j hj
  | k + 1, f, hf, hk, j, hj => by
    unfold insU
    split
    · refine insU_r hv k _ (fun i hi => ?_) (by omega) j hj
      unfold uF
      split
      · exact hf k (by omega)
      · exact hf i hi
    · unfold uF
      split
      · exact hv
      · exact hf j hj
theorem srtU_r (f : Nat → Int) (hf : ∀ j, j < 8 → 0 ≤ f j ∧ f j ≤ 30000) : ∀ k, k < 8 → ∀ j, j < 8 → 0 ≤ srtU f k j ∧ srtU f k j ≤ 30000
  | 0, _ => hf
  | k + 1, h => insU_r (srtU_r f hf k (by omega) (k + 1) h) (k + 1) _ (srtU_r f hf k (by omega)) h
/-- f laid into F from b on -/
def putAt (F : Nat → Int) (b : Nat) (f : Nat → Int) : Nat → Int := fun i => if b ≤ i ∧ i < b + 8 then f (i - b) else F i
theorem putAt_uF (F : Nat → Int) {b k : Nat} (hk : k < 8) (f : Nat → Int) (v : Int) : uF (putAt F b f) (b + k) v = putAt F b (uF f k v) := by
  funext i
  unfold uF putAt
  by_cases h : i = b + k
  · subst h
    rw [if_pos rfl, if_pos (by omega)]
    show v = if b + k - b = k then v else f (b + k - b)
    rw [if_pos (by omega)]
  · rw [if_neg h]
    by_cases h2 : b ≤ i ∧ i < b + 8
    · rw [if_pos h2, if_pos h2]
      show f (i - b) = if i - b = k then v else f (i - b)
      rw [if_neg (by omega)]
    · rw [if_neg h2, if_neg h2]
theorem putAt_at (F : Nat → Int) {b k : Nat} (hk : k < 8) (f : Nat → Int) : putAt F b f (b + k) = f k := by
  unfold putAt
  rw [if_pos (by omega), show b + k - b = k by omega]
theorem putAt_id (F : Nat → Int) (b : Nat) : putAt F b (fun j => F (b + j)) = F := by
  funext i
  unfold putAt
  split
  · rename_i h
    show F (b + (i - b)) = F i
    rw [show b + (i - b) = i by omega]
  · rfl
theorem putAt_out (F : Nat → Int) {b i : Nat} (h : i < b ∨ b + 8 ≤ i) (f : Nat → Int) : putAt F b f i = F i := by
  unfold putAt
  rw [if_neg (by omega)]
