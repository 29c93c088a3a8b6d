theorem uS_eq (σ : St) (q k : Nat) (v : Int) : uS σ q k v q k = v := by simp [uS]
theorem uS_uS (σ : St) (q k : Nat) (v w : Int) : uS (uS σ q k v) q k w = uS σ q k w := by
  funext a b
  by_cases h : a = q ∧ b = k <;> simp [uS, h]
theorem uS_id (σ : St) (q k : Nat) : uS σ q k (σ q k) = σ := by
  funext a b
  by_cases h : a = q ∧ b = k
  · obtain ⟨rfl, rfl⟩ := h; simp [uS]
  · simp [uS, h]
theorem uA_eq (α : St) (q : Nat) (f : Nat → Int) : uA α q f q = f := by simp [uA]
theorem uA_ne (α : St) {q q' : Nat} (f : Nat → Int) (h : q' ≠ q) : uA α q f q' = α q' := by simp [uA, h]
theorem uA_uA (α : St) (q : Nat) (f g : Nat → Int) : uA (uA α q f) q g = uA α q g := by
  funext a
  by_cases h : a = q <;> simp [uA, h]
theorem uA_id (α : St) (q : Nat) : uA α q (α q) = α := by
  funext a
  by_cases h : a = q <;> simp [uA, h]
theorem uF_eq (f : Nat → Int) (k : Nat) (v : Int) : uF f k v k = v := by simp [uF]
theorem uF_ne (f : Nat → Int) {k j : Nat} (v : Int) (h : j ≠ k) : uF f k v j = f j := by simp [uF, h]
theorem uF_uF (f : Nat → Int) (k : Nat) (v w : Int) : uF (uF f k v) k w = uF f k w := by
  funext a
  by_cases h : a = k <;> simp [uF, h]
theorem uF_id (f : Nat → Int) (k : Nat) : uF f k (f k) = f := by
  funext a
  by_cases h : a = k <;> simp [uF, h]
/-- but for the steps' own cell -/
def Sc (σ σ' : St) : Prop := ∃ x, σ' = uS σ 95 23 x
theorem Sc.rf (σ : St) : Sc σ σ := ⟨σ 95 23, (uS_id σ 95 23).symm⟩
theorem Sc.tr {σ σ1 σ2 : St} (h : Sc σ σ1) (h2 : Sc σ1 σ2) : Sc σ σ2 := by
  obtain ⟨x, rfl⟩ := h
  obtain ⟨y, rfl⟩ := h2
  exact ⟨y, uS_uS _ _ _ _ _⟩
theorem Sc.put {σ σ1 : St} (h : Sc σ σ1) (y : Int) : Sc σ (uS σ1 95 23 y) := h.tr ⟨y, rfl⟩
theorem Sc.at {σ σ1 : St} (h : Sc σ σ1) {q k : Nat} (hk : ¬ (q = 95 ∧ k = 23)) : σ1 q k = σ q k := by
  obtain ⟨x, rfl⟩ := h
  simp [uS, hk]
theorem RV.sc {σ σ1 α : St} {n : Nat} {V B N : Nat → Int} (hR : RV σ α n V B N) (h : Sc σ σ1) : RV σ1 α n V B N := ⟨by rw [h.at (by decide)]; exact hR.1, hR.2⟩
theorem clm_y {n f a : Nat} {V B N : Nat → Int} (h : topR V B N n a = true) : clm V B N n (f + 1) a = (a, 0) := by simp only [clm, h, if_true]
theorem clm_n {n f a b : Nat} {V B N : Nat → Int} (h : topR V B N n a = false) (e : latU V B (N a) n = b) : clm V B N n (f + 1) a = ((clm V B N n f b).1, (clm V B N n f b).2 + 1) := by
  rw [clm, h, e]; rfl
/-- two sets of ends, gathered -/
def acc2 (c : Nat → Nat → Bool) (e : Nat → Nat → Nat) (i a : Nat) : Nat → Nat
  | 0 => a
  | k + 1 => if c i k then acc2 c e i a k ||| 2 ^ (e i k) else acc2 c e i a k
def acc1 (c : Nat → Nat → Bool) (e : Nat → Nat → Nat) (n : Nat) : Nat → Nat
  | 0 => 0
  | k + 1 => acc2 c e k (acc1 c e n k) n
theorem acc2_lt {c : Nat → Nat → Bool} {e : Nat → Nat → Nat} {n i a : Nat} (hi : i < n) (he : ∀ j, j < n → e i j < n) (ha : a < 2 ^ n) : ∀ k, k ≤ n → acc2 c e i a k < 2 ^ n
  | 0, _ => ha
  | k + 1, hk => by
    have ih := acc2_lt (c := c) hi he ha k (by omega)
    unfold acc2
    split
    · exact or_lt ih (Nat.pow_lt_pow_right (by decide) (he k (by omega)))
    · exact ih
theorem acc1_lt {c : Nat → Nat → Bool} {e : Nat → Nat → Nat} {n : Nat} (he : ∀ i j, i < n → j < n → e i j < n) : ∀ k, k ≤ n → acc1 c e n k < 2 ^ n
  | 0, _ => Nat.two_pow_pos _
  | k + 1, hk => acc2_lt (by omega) (fun j hj => he k j (by omega) hj) (acc1_lt he k (by omega)) n (Nat.le_refl _)
theorem pow10 {n a : Nat} (hn : n ≤ 10) (ha : a < 2 ^ n) : a < 1024 := Nat.lt_of_lt_of_le ha (Nat.pow_le_pow_right (by decide) hn : 2 ^ n ≤ 2 ^ 10)
def sooE (V B : Nat → Int) (i j : Nat) : Nat := if ltr V B i j then j else i
theorem sooE_in (V B : Nat → Int) {n : Nat} : ∀ i j, i < n → j < n → sooE V B i j < n := by
  intro i j hi hj
  unfold sooE
  split <;> assumption
def pasC (V B N : Nat → Int) (n : Nat) (one other : Int) (i j : Nat) : Bool := decide (((clm V B N n 10 i).1 : Int) = one) && decide (((clm V B N n 10 j).1 : Int) = other) && hasB (N i) j
def passR (V B N : Nat → Int) (n : Nat) (one other : Int) : Int := latU V B (acc1 (pasC V B N n one other) (sooE V B) n n : Nat) n
def high (c : Int) (V B : Nat → Int) (at_ top : Nat) : Bool := decide (c * V top * B at_ ≤ V at_ * 100 * B top)
def drwP (c : Int) (V B N : Nat → Int) (n top o : Nat) : Bool := topR V B N n o && ltr V B o top && (decide (passR V B N n top o ≠ -1) && high c V B (passR V B N n top o).toNat top)
def drwR (c : Int) (V B N : Nat → Int) (n top : Nat) : Int := latU V B (msk (drwP c V B N n top) n : Nat) n
theorem drw_lt {c : Int} {V B N : Nat → Int} {n top : Nat} (hW : WF n V B N) (h : ¬ drwR c V B N n top = -1) : ∃ b : Nat, b < n ∧ drwR c V B N n top = b ∧ ltr V B b top = true ∧ topR V B N n b = true := by
  rcases latU_spec hW (msk (drwP c V B N n top) n : Nat) n (Nat.le_refl _) with ⟨e, -⟩ | ⟨b, hb, e, hh, -⟩
  · exact absurd e h
  · rw [hasB_msk hb] at hh
    simp only [drwP, Bool.and_eq_true] at hh
    exact ⟨b, hb, e, hh.1.2, hh.1.1⟩
def hdF (c : Int) (V B N : Nat → Int) (n : Nat) : Nat → Nat → Nat
  | 0, a => a
  | f + 1, a => if drwR c V B N n a = -1 then a else hdF c V B N n f (drwR c V B N n a).toNat
theorem hdF_y {c : Int} {V B N : Nat → Int} {n f a : Nat} (h : drwR c V B N n a = -1) : hdF c V B N n (f + 1) a = a := by simp only [hdF, h, if_true]
theorem hdF_n {c : Int} {V B N : Nat → Int} {n f a b : Nat} (h : ¬ drwR c V B N n a = -1) (e : drwR c V B N n a = b) : hdF c V B N n (f + 1) a = hdF c V B N n f b := by
  rw [hdF, if_neg h, e]; rfl
theorem hdF_in {c : Int} {n : Nat} {V B N : Nat → Int} (hW : WF n V B N) : ∀ f a, a < n → hdF c V B N n f a < n
  | 0, a, ha => ha
  | f + 1, a, ha => by
    by_cases h : drwR c V B N n a = -1
    · rw [hdF_y h]; exact ha
    · obtain ⟨b, hb, e, -⟩ := drw_lt hW h
      rw [hdF_n h e]
      exact hdF_in hW f b hb
/-- the head of the basin of a section -/
def hds (c : Int) (V B N : Nat → Int) (n i : Nat) : Nat := hdF c V B N n 10 (clm V B N n 10 i).1
def outl (a b : Int) (V B : Nat → Int) (vol skin : Int) (top : Nat) : Bool := decide (V top * a * skin ≤ vol * b * B top)
/-- the first from k on, f of them -/
def fst1 (p : Nat → Bool) : Nat → Nat → Int
  | 0, _ => -1
  | f + 1, k => if p k then (k : Int) else fst1 p f (k + 1)
theorem fst1_r (p : Nat → Bool) : ∀ f k, -1 ≤ fst1 p f k ∧ fst1 p f k < k + f
  | 0, k => by simp [fst1]; omega
  | f + 1, k => by
    have := fst1_r p f (k + 1)
    unfold fst1
    split <;> omega
/-- the risers as a row tells them: how many, where, how much, what skin -/
def fdrP (a b : Int) (V B : Nat → Int) (hd : Nat → Int) (on vo sk : Nat → Int) (set : Int) (top r : Nat) : Bool := hasB set r && (decide (hd (on r).toNat = hd top) && outl a b V B (vo r) (sk r) top)
def fdrR (a b : Int) (V B : Nat → Int) (hd : Nat → Int) (on vo sk : Nat → Int) (many : Nat) (set : Int) (top : Nat) : Int := fst1 (fdrP a b V B hd on vo sk set top) many 0
def fedR (a b : Int) (V B N : Nat → Int) (n : Nat) (hd : Nat → Int) (on vo sk : Nat → Int) (many : Nat) (set : Int) : Nat := msk (fun i => topR V B N n i && decide (fdrR a b V B hd on vo sk many set i ≠ -1)) n
