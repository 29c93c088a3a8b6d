/-- the class's view of a casting, in its melt -/
def KV (σ α : St) (n : Nat) (V B N : Nat → Int) : Prop := σ 71 8 = n ∧ ∀ i, i < n → α 72 i = V i ∧ α 73 i = B i ∧ α 6 i = N i
def laterF (V B : Nat → Int) (s t : Int) : Int := if s = -1 then t else if t = -1 then s else if ltr V B t.toNat s.toNat then t else s
theorem laterF_r {V B : Nat → Int} {s t n : Int} (hs : -1 ≤ s ∧ s < n) (ht : -1 ≤ t ∧ t < n) : -1 ≤ laterF V B s t ∧ laterF V B s t < n := by
  unfold laterF; split; omega; split; omega; split <;> omega
theorem latU_s (V B : Nat → Int) (m : Int) (k : Nat) : latU V B m (k + 1) = if hasB m k then laterF V B (latU V B m k) k else latU V B m k := by
  have h := latU_r V B m k
  rw [latU]
  by_cases h1 : hasB m k = true
  · by_cases h2 : latU V B m k = -1
    · simp [h1, h2, laterF]
    · have h3 : ¬ (k : Int) = -1 := by omega
      simp [h1, h2, laterF, h3]
  · simp [h1]
theorem hasB_iff (x k : Int) : hasB x k = true ↔ x / 2 ^ k.toNat % 2 = 1 := by simp [hasB]
theorem hasB_0 (x k : Int) : hasB x k = false ↔ x / 2 ^ k.toNat % 2 = 0 := by
  rw [← Bool.not_eq_true, hasB_iff]; omega
/-- the latest of several, one by one -/
def inc2 (V B : Nat → Int) (c : Nat → Nat → Bool) (e : Nat → Nat → Nat) (i : Nat) (a : Int) : Nat → Int
  | 0 => a
  | k + 1 => if c i k then laterF V B (inc2 V B c e i a k) (e i k) else inc2 V B c e i a k
def inc1 (V B : Nat → Int) (c : Nat → Nat → Bool) (e : Nat → Nat → Nat) (n : Nat) : Nat → Int
  | 0 => -1
  | k + 1 => inc2 V B c e k (inc1 V B c e n k) n
def sooK (V B : Nat → Int) (i j : Nat) : Nat := if ltr V B j i then i else j
def pasB (V B N : Nat → Int) (n : Nat) (one other : Int) : Int := if one = other then -1 else inc1 V B (pasC V B N n one other) (sooK V B) n n
/-- r is the latest of the numbers that hold -/
def IsMax (V B : Nat → Int) (p : Nat → Prop) (r : Int) : Prop := (r = -1 ∧ ∀ x, ¬ p x) ∨ ∃ b : Nat, r = b ∧ p b ∧ ∀ x, p x → x = b ∨ ltr V B b x = true
theorem IsMax.uniq {V B : Nat → Int} {p : Nat → Prop} {r s : Int} (h1 : IsMax V B p r) (h2 : IsMax V B p s) : r = s := by
  rcases h1 with ⟨rfl, h1⟩ | ⟨b, rfl, hb, hm⟩ <;> rcases h2 with ⟨rfl, h2⟩ | ⟨d, rfl, hd, hn⟩
  · rfl
  · exact absurd hd (h1 d)
  · exact absurd hb (h2 b)
  · rcases hm d hd with rfl | h
    · rfl
    · rcases hn b hb with rfl | h3
      · rfl
      · rw [ltr_asy h] at h3; cases h3
theorem IsMax.add {n : Nat} {V B N : Nat → Int} (hW : WF n V B N) {p : Nat → Prop} {r : Int} (hp : ∀ x, p x → x < n) (h : IsMax V B p r) {y : Nat} (hy : y < n) : IsMax V B (fun x => p x ∨ x = y) (laterF V B r y) := by
  rcases h with ⟨rfl, h1⟩ | ⟨b, rfl, hb, hm⟩
  · refine Or.inr ⟨y, by simp [laterF], Or.inr rfl, fun x hx => ?_⟩
    rcases hx with hx | hx
    · exact absurd hx (h1 x)
    · exact Or.inl hx
  · have e1 : ¬ (b : Int) = -1 := by omega
    have e2 : ¬ (y : Int) = -1 := by omega
    by_cases hl : ltr V B y b = true
    · refine Or.inr ⟨y, by simp [laterF, e1, e2, hl], Or.inr rfl, fun x hx => ?_⟩
      rcases hx with hx | hx
      · rcases hm x hx with rfl | h
        · exact Or.inr hl
        · exact Or.inr (ltr_tr hW hy (hp b hb) (hp x hx) hl h)
      · exact Or.inl hx
    · have hl2 : ltr V B y b = false := by simpa using hl
      refine Or.inr ⟨b, by simp [laterF, e1, e2, hl2], Or.inl hb, fun x hx => ?_⟩
      rcases hx with hx | rfl
      · exact hm x hx
      · by_cases hxb : x = b
        · exact Or.inl hxb
        · exact Or.inr (ltr_tot V B hxb hl2)
theorem IsMax.congr {V B : Nat → Int} {p q : Nat → Prop} {r : Int} (h : IsMax V B p r) (e : ∀ x, p x ↔ q x) : IsMax V B q r := by
  have : p = q := funext fun x => propext (e x)
  rw [← this]; exact h
theorem inc2_max {n : Nat} {V B N : Nat → Int} (hW : WF n V B N) {c : Nat → Nat → Bool} {e : Nat → Nat → Nat} (he : ∀ i j, i < n → j < n → e i j < n) {i : Nat} (hi : i < n) {p : Nat → Prop} {a : Int} (hp : ∀ x, p x → x < n) (h : IsMax V B p a) : ∀ k, k ≤ n → IsMax V B (fun x => p x ∨ ∃ j, j < k ∧ c i j = true ∧ e i j = x) (inc2 V B c e i a k)
  | 0, _ => h.congr fun x => ⟨Or.inl, fun q => q.elim id fun ⟨j, hj, _⟩ => by omega⟩
  | k + 1, hk => by
    have ih := inc2_max hW (c := c) he hi hp h k (by omega)
    unfold inc2
    by_cases hc : c i k = true
    · rw [if_pos hc]
      refine (ih.add hW ?_ (he i k hi (by omega))).congr fun x => ⟨?_, ?_⟩
      · rintro x (hx | ⟨j, hj, -, rfl⟩)
        · exact hp x hx
        · exact he i j hi (by omega)
      · rintro ((hx | ⟨j, hj, h1, h2⟩) | rfl)
        · exact Or.inl hx
        · exact Or.inr ⟨j, by omega, h1, h2⟩
        · exact Or.inr ⟨k, by omega, hc, rfl⟩
      · rintro (hx | ⟨j, hj, h1, h2⟩)
        · exact Or.inl (Or.inl hx)
        · by_cases hjk : j = k
          · subst hjk; exact Or.inr h2.symm
          · exact Or.inl (Or.inr ⟨j, by omega, h1, h2⟩)
    · rw [if_neg hc]
      refine ih.congr fun x => ⟨?_, ?_⟩
      · rintro (hx | ⟨j, hj, h1, h2⟩)
        · exact Or.inl hx
        · exact Or.inr ⟨j, by omega, h1, h2⟩
      · rintro (hx | ⟨j, hj, h1, h2⟩)
        · exact Or.inl hx
        · by_cases hjk : j = k
          · subst hjk; exact absurd h1 hc
          · exact Or.inr ⟨j, by omega, h1, h2⟩
theorem inc1_max {n : Nat} {V B N : Nat → Int} (hW : WF n V B N) {c : Nat → Nat → Bool} {e : Nat → Nat → Nat} (he : ∀ i j, i < n → j < n → e i j < n) : ∀ k, k ≤ n → IsMax V B (fun x => ∃ i j, i < k ∧ j < n ∧ c i j = true ∧ e i j = x) (inc1 V B c e n k)
  | 0, _ => Or.inl ⟨rfl, fun x ⟨i, j, hi, _⟩ => by omega⟩
  | k + 1, hk => by
    have ih := inc1_max hW (c := c) he k (by omega)
    unfold inc1
    refine (inc2_max hW he (show k < n by omega) ?_ ih n (Nat.le_refl _)).congr fun x => ⟨?_, ?_⟩
    · rintro x ⟨i, j, hi, hj, -, rfl⟩
      exact he i j (by omega) hj
    · rintro (⟨i, j, hi, hj, h1, h2⟩ | ⟨j, hj, h1, h2⟩)
      · exact ⟨i, j, by omega, hj, h1, h2⟩
      · exact ⟨k, j, by omega, hj, h1, h2⟩
    · rintro ⟨i, j, hi, hj, h1, h2⟩
      by_cases hik : i = k
      · subst hik; exact Or.inr ⟨j, hj, h1, h2⟩
      · exact Or.inl ⟨i, j, by omega, hj, h1, h2⟩
theorem acc2_bit {c : Nat → Nat → Bool} {e : Nat → Nat → Nat} {i a x : Nat} : ∀ k, (acc2 c e i a k).testBit x = true ↔ a.testBit x = true ∨ ∃ j, j < k ∧ c i j = true ∧ e i j = x
  | 0 => ⟨Or.inl, fun q => q.elim id fun ⟨j, hj, _⟩ => by omega⟩
  | k + 1 => by
    have ih := acc2_bit (c := c) (e := e) (i := i) (a := a) (x := x) k
    unfold acc2
    by_cases hc : c i k = true
    · rw [if_pos hc, Nat.testBit_or, Bool.or_eq_true, ih, Nat.testBit_two_pow]
      constructor
      · rintro ((hx | ⟨j, hj, h1, h2⟩) | h)
        · exact Or.inl hx
        · exact Or.inr ⟨j, by omega, h1, h2⟩
        · exact Or.inr ⟨k, by omega, hc, by simpa using h⟩
      · rintro (hx | ⟨j, hj, h1, h2⟩)
        · exact Or.inl (Or.inl hx)
        · by_cases hjk : j = k
          · subst hjk; exact Or.inr (by simpa using h2)
          · exact Or.inl (Or.inr ⟨j, by omega, h1, h2⟩)
    · rw [if_neg hc, ih]
      constructor
      · rintro (hx | ⟨j, hj, h1, h2⟩)
        · exact Or.inl hx
        · exact Or.inr ⟨j, by omega, h1, h2⟩
      · rintro (hx | ⟨j, hj, h1, h2⟩)
        · exact Or.inl hx
        · by_cases hjk : j = k
          · subst hjk; exact absurd h1 hc
          · exact Or.inr ⟨j, by omega, h1, h2⟩
theorem acc1_bit {c : Nat → Nat → Bool} {e : Nat → Nat → Nat} {n x : Nat} : ∀ k, (acc1 c e n k).testBit x = true ↔ ∃ i j, i < k ∧ j < n ∧ c i j = true ∧ e i j = x
  | 0 => by
    constructor
    · intro h; simp [acc1] at h
    · rintro ⟨i, j, hi, _⟩; omega
  | k + 1 => by
    unfold acc1
    rw [acc2_bit, acc1_bit k]
    constructor
    · rintro (⟨i, j, hi, hj, h1, h2⟩ | ⟨j, hj, h1, h2⟩)
      · exact ⟨i, j, by omega, hj, h1, h2⟩
      · exact ⟨k, j, by omega, hj, h1, h2⟩
    · rintro ⟨i, j, hi, hj, h1, h2⟩
      by_cases hik : i = k
      · subst hik; exact Or.inr ⟨j, hj, h1, h2⟩
      · exact Or.inl ⟨i, j, by omega, hj, h1, h2⟩
theorem latU_max {n : Nat} {V B N : Nat → Int} (hW : WF n V B N) (m : Nat) (hm : m < 2 ^ n) : IsMax V B (fun x => m.testBit x = true) (latU V B m n) := by
  rcases latU_spec hW (m : Int) n (Nat.le_refl _) with ⟨e, hn⟩ | ⟨b, hb, e, hh, hmax⟩
  · refine Or.inl ⟨e, fun x hx => ?_⟩
    have hx : m.testBit x = true := hx
    have hxn : x < n := by
      rcases Nat.lt_or_ge x n with h | h
      · exact h
      · rw [Nat.testBit_lt_two_pow (Nat.lt_of_lt_of_le hm (Nat.pow_le_pow_right (by decide) h))] at hx; cases hx
    have := hn x hxn
    rw [hasB_nat] at this
    rw [this] at hx; cases hx
  · rw [hasB_nat] at hh
    refine Or.inr ⟨b, e, hh, fun x hx => ?_⟩
    have hx : m.testBit x = true := hx
    have hxn : x < n := by
      rcases Nat.lt_or_ge x n with h | h
      · exact h
      · rw [Nat.testBit_lt_two_pow (Nat.lt_of_lt_of_le hm (Nat.pow_le_pow_right (by decide) h))] at hx; cases hx
    exact hmax x hxn (by rw [hasB_nat]; exact hx)
theorem sooK_in (V B : Nat → Int) {n : Nat} : ∀ i j, i < n → j < n → sooK V B i j < n := by
  intro i j hi hj
  unfold sooK
  split <;> assumption
/-- the pass, one by one and out of a set -/
theorem pasB_eq {n : Nat} {V B N : Nat → Int} (hW : WF n V B N) {one other : Int} (h : one ≠ other) : pasB V B N n one other = passR V B N n one other := by
  unfold pasB passR
  rw [if_neg h]
  refine IsMax.uniq (inc1_max hW (sooK_in V B) n (Nat.le_refl _)) ((latU_max hW _ (acc1_lt (sooE_in V B) n (Nat.le_refl _))).congr fun x => ?_)
  rw [acc1_bit]
  have key : ∀ i j, pasC V B N n one other i j = true → sooE V B i j = sooK V B i j := by
    intro i j hc
    simp only [pasC, Bool.and_eq_true, decide_eq_true_eq] at hc
    have hij : i ≠ j := by
      rintro rfl
      exact h (hc.1.1.symm.trans hc.1.2)
    unfold sooE sooK
    by_cases hl : ltr V B i j = true
    · rw [if_pos hl, if_neg (by rw [ltr_asy hl]; decide)]
    · have hl2 : ltr V B i j = false := by simpa using hl
      rw [if_neg hl, if_pos (ltr_tot V B hij hl2)]
  constructor
  · rintro ⟨i, j, hi, hj, h1, h2⟩; exact ⟨i, j, hi, hj, h1, by rw [← key i j h1]; exact h2⟩
  · rintro ⟨i, j, hi, hj, h1, h2⟩; exact ⟨i, j, hi, hj, h1, by rw [key i j h1]; exact h2⟩
/-- in what a section is drowned: none, if it is no top -/
def dIn (c : Int) (V B N : Nat → Int) (n i : Nat) : Int := if topR V B N n i then drwR c V B N n i else -1
theorem dIn_r (c : Int) (V B N : Nat → Int) (n i : Nat) : -1 ≤ dIn c V B N n i ∧ dIn c V B N n i < n := by
  have := drwR_r c V B N n i
  unfold dIn; split <;> omega
/-- the head, walked from any section -/
def hdC (c : Int) (V B N : Nat → Int) (n : Nat) : Nat → Nat → Nat
  | 0, a => a
  | f + 1, a => if dIn c V B N n a = -1 then a else hdC c V B N n f (dIn c V B N n a).toNat
theorem hdC_y {c : Int} {V B N : Nat → Int} {n f a : Nat} (h : dIn c V B N n a = -1) : hdC c V B N n (f + 1) a = a := by simp only [hdC, h, if_true]
theorem hdC_n {c : Int} {V B N : Nat → Int} {n f a b : Nat} (h : ¬ dIn c V B N n a = -1) (e : dIn c V B N n a = b) : hdC c V B N n (f + 1) a = hdC c V B N n f b := by
  rw [hdC, if_neg h, e]; rfl
theorem hdC_top {c : Int} {V B N : Nat → Int} {n : Nat} (hW : WF n V B N) : ∀ f a, topR V B N n a = true → hdC c V B N n f a = hdF c V B N n f a
  | 0, a, _ => rfl
  | f + 1, a, h => by
    have e : dIn c V B N n a = drwR c V B N n a := by simp [dIn, h]
    by_cases hd : drwR c V B N n a = -1
    · rw [hdC_y (by rw [e]; exact hd), hdF_y hd]
    · obtain ⟨b, hb, e2, -, ht⟩ := drw_lt hW hd
      rw [hdC_n (by rw [e]; exact hd) (by rw [e]; exact e2), hdF_n hd e2]
      exact hdC_top hW f b ht
theorem dIn_lt {c : Int} {V B N : Nat → Int} {n a : Nat} (hW : WF n V B N) (h : ¬ dIn c V B N n a = -1) : ∃ b : Nat, b < n ∧ dIn c V B N n a = b ∧ ltr V B b a = true := by
  by_cases ht : topR V B N n a = true
  · have e : dIn c V B N n a = drwR c V B N n a := by simp [dIn, ht]
    rw [e] at h ⊢
    obtain ⟨b, hb, e2, hl, -⟩ := drw_lt hW h
    exact ⟨b, hb, e2, hl⟩
  · exact absurd (by simp [dIn, ht]) h
theorem hdC_in {c : Int} {n : Nat} {V B N : Nat → Int} (hW : WF n V B N) : ∀ f a, a < n → hdC c V B N n f a < n
  | 0, a, ha => ha
  | f + 1, a, ha => by
    by_cases h : dIn c V B N n a = -1
    · rw [hdC_y h]; exact ha
    · obtain ⟨b, hb, e, -⟩ := dIn_lt hW h
      rw [hdC_n h e]
      exact hdC_in hW f b hb
theorem hds_top {c : Int} {V B N : Nat → Int} {n t : Nat} (h : topR V B N n t = true) : hds c V B N n t = hdF c V B N n 10 t := by
  unfold hds; rw [clm_y h]
def bc1 (x : Int) : Int := x - ((x / 2 ^ (1 : Int).toNat).toNat &&& (1431655765 : Int).toNat : Nat)
def bc2 (y : Int) : Int := ((y.toNat &&& (858993459 : Int).toNat : Nat) : Int) + ((y / 2 ^ (2 : Int).toNat).toNat &&& (858993459 : Int).toNat : Nat)
def bc3 (y : Int) : Int := ((y + y / 2 ^ (4 : Int).toNat).toNat &&& (252645135 : Int).toNat : Nat)
def bc4 (y : Int) : Int := y + y / 2 ^ (8 : Int).toNat
def bc5 (y : Int) : Int := y + y / 2 ^ (16 : Int).toNat
def bc6 (y : Int) : Int := (y.toNat &&& (63 : Int).toNat : Nat)
def bcr (z : Int) : Bool := decide (0 ≤ z ∧ z ≤ 100000)
theorem bc_all : ∀ x : Nat, x < 1024 → (bcr (bc1 x) && bcr (bc2 (bc1 x)) && bcr (bc3 (bc2 (bc1 x))) && bcr (bc4 (bc3 (bc2 (bc1 x)))) && bcr (bc5 (bc4 (bc3 (bc2 (bc1 x))))) && decide (bc6 (bc5 (bc4 (bc3 (bc2 (bc1 x))))) = onesU x 10)) = true := by decide +kernel
