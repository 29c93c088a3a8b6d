/-- the text: kinds of letters, tokens -/
def kdU (c : Int) : Int := if 97 ≤ c ∧ c ≤ 122 then 1 else if 48 ≤ c ∧ c ≤ 57 then 2 else 3
theorem kdU_1 {c : Int} : kdU c = 1 ↔ 97 ≤ c ∧ c ≤ 122 := by unfold kdU; split; omega; split <;> omega
theorem kdU_2 {c : Int} : kdU c = 2 ↔ 48 ≤ c ∧ c ≤ 57 := by unfold kdU; split; omega; split <;> omega
theorem kdU_3 {c : Int} : kdU c = 3 ↔ ¬ (97 ≤ c ∧ c ≤ 122) ∧ ¬ (48 ≤ c ∧ c ≤ 57) := by unfold kdU; split; omega; split <;> omega
theorem kdU_r (c : Int) : 1 ≤ kdU c ∧ kdU c ≤ 3 := by unfold kdU; split; omega; split <;> omega
def skU (f : Nat → Int) : Nat → Nat → Nat
  | 0, p => p
  | n + 1, p => if f p = 32 then skU f n (p + 1) else p
def rnU (f : Nat → Int) (k : Int) : Nat → Nat → Nat
  | 0, p => p
  | n + 1, p => if kdU (f p) = k then rnU f k n (p + 1) else p
theorem skU_r (f : Nat → Int) : ∀ n p, p ≤ skU f n p ∧ skU f n p ≤ p + n
  | 0, p => by simp [skU]
  | n + 1, p => by
    have := skU_r f n (p + 1)
    unfold skU
    split <;> omega
theorem rnU_r (f : Nat → Int) (k : Int) : ∀ n p, p ≤ rnU f k n p ∧ rnU f k n p ≤ p + n
  | 0, p => by simp [rnU]
  | n + 1, p => by
    have := rnU_r f k n (p + 1)
    unfold rnU
    split <;> omega
theorem rnU_k (f : Nat → Int) (k : Int) : ∀ n p i, p ≤ i → i < rnU f k n p → kdU (f i) = k
  | 0, p, i, h1, h2 => by simp [rnU] at h2; omega
  | n + 1, p, i, h1, h2 => by
    unfold rnU at h2
    split at h2
    · rename_i h
      by_cases hi : i = p
      · rw [hi]; exact h
      · exact rnU_k f k n (p + 1) i (by omega) h2
    · omega
def tkS (f : Nat → Int) (l p : Nat) : Nat := skU f (l - p) p
def tkE (f : Nat → Int) (l s : Nat) : Nat := if s < l then (if kdU (f s) = 3 then s + 1 else rnU f (kdU (f s)) (l - (s + 1)) (s + 1)) else s
theorem tkS_r (f : Nat → Int) {l p : Nat} (h : p ≤ l) : p ≤ tkS f l p ∧ tkS f l p ≤ l := by
  have := skU_r f (l - p) p
  unfold tkS
  omega
theorem tkE_r (f : Nat → Int) {l s : Nat} (h : s ≤ l) : s ≤ tkE f l s ∧ tkE f l s ≤ l ∧ (s < l → s < tkE f l s) := by
  have := rnU_r f (kdU (f s)) (l - (s + 1)) (s + 1)
  unfold tkE
  split
  · split <;> omega
  · omega
theorem tkE_k (f : Nat → Int) {l s i : Nat} (h1 : s ≤ i) (h2 : i < tkE f l s) : kdU (f i) = kdU (f s) := by
  unfold tkE at h2
  split at h2
  · split at h2
    · rw [show i = s by omega]
    · by_cases hi : i = s
      · rw [hi]
      · exact rnU_k f _ _ _ i (by omega) h2
  · omega
theorem tkS_stop {f : Nat → Int} {l p : Nat} (h : ¬ (p < l ∧ f p = 32)) : tkS f l p = p := by
  unfold tkS
  cases hn : l - p with
  | zero => rfl
  | succ n =>
    unfold skU
    rw [if_neg (fun h2 => h ⟨by omega, h2⟩)]
theorem tkS_step {f : Nat → Int} {l p : Nat} (h : p < l) (h2 : f p = 32) : tkS f l p = tkS f l (p + 1) := by
  unfold tkS
  rw [show l - p = (l - (p + 1)) + 1 by omega]
  show (if f p = 32 then _ else _) = _
  rw [if_pos h2]
theorem rn_stop {f : Nat → Int} {k : Int} {l p : Nat} (h : ¬ (p < l ∧ kdU (f p) = k)) : rnU f k (l - p) p = p := by
  cases hn : l - p with
  | zero => rfl
  | succ n =>
    unfold rnU
    rw [if_neg (fun h2 => h ⟨by omega, h2⟩)]
theorem rn_step {f : Nat → Int} {k : Int} {l p : Nat} (h : p < l) (h2 : kdU (f p) = k) : rnU f k (l - p) p = rnU f k (l - (p + 1)) (p + 1) := by
  rw [show l - p = (l - (p + 1)) + 1 by omega]
  show (if kdU (f p) = k then _ else _) = _
  rw [if_pos h2]
theorem tkE_out {f : Nat → Int} {l s : Nat} (h : ¬ s < l) : tkE f l s = s := by unfold tkE; rw [if_neg h]
theorem tkE_3 {f : Nat → Int} {l s : Nat} (h : s < l) (h3 : kdU (f s) = 3) : tkE f l s = s + 1 := by unfold tkE; rw [if_pos h, if_pos h3]
theorem tkE_n {f : Nat → Int} {l s : Nat} (h : s < l) (h3 : kdU (f s) ≠ 3) : tkE f l s = rnU f (kdU (f s)) (l - (s + 1)) (s + 1) := by unfold tkE; rw [if_pos h, if_neg h3]
def txU (f : Nat → Int) (l : Nat) : Prop := l ≤ 200 ∧ ∀ i, i < l → 0 ≤ f i ∧ f i ≤ 255
/-- the value of k digits from s on -/
def vlU (f : Nat → Int) (s : Nat) : Nat → Int
  | 0 => 0
  | k + 1 => 10 * vlU f s k + f (s + k) - 48
theorem vlU_r {f : Nat → Int} {l s : Nat} (hf : txU f l) : ∀ k, s + k ≤ l → k ≤ 3 → -6000 ≤ vlU f s k ∧ vlU f s k ≤ 30000 ∧ (k ≤ 2 → -528 ≤ vlU f s k ∧ vlU f s k ≤ 2805) ∧ (k ≤ 1 → -48 ≤ vlU f s k ∧ vlU f s k ≤ 255) ∧ (k = 0 → vlU f s k = 0)
  | 0, _, _ => by simp [vlU]
  | k + 1, h, h3 => by
    have h1 := vlU_r (s := s) hf k (by omega) (by omega)
    have h2 := hf.2 (s + k) (by omega)
    unfold vlU
    rcases (show k = 0 ∨ k = 1 ∨ k = 2 by omega) with rfl | rfl | rfl
    · have := h1.2.2.2.2 rfl; omega
    · have := h1.2.2.2.1 (by omega); omega
    · have := h1.2.2.1 (by omega); omega
/-- a number at the token behind p: whether it is one, the place behind it (else where it begins), its value -/
def nmB (f : Nat → Int) (l p : Nat) (lo hi but : Int) : Bool := decide ((tkS f l p < l ∧ kdU (f (tkS f l p)) = 2 ∧ tkE f l (tkS f l p) ≤ tkS f l p + 3) ∧ (lo ≤ vlU f (tkS f l p) (tkE f l (tkS f l p) - tkS f l p) ∧ vlU f (tkS f l p) (tkE f l (tkS f l p) - tkS f l p) ≤ hi) ∧ vlU f (tkS f l p) (tkE f l (tkS f l p) - tkS f l p) ≠ but)
def nmV (f : Nat → Int) (l p : Nat) : Int := vlU f (tkS f l p) (tkE f l (tkS f l p) - tkS f l p)
def nmE (f : Nat → Int) (l p : Nat) : Nat := tkE f l (tkS f l p)
theorem nmE_r (f : Nat → Int) {l p : Nat} (h : p ≤ l) : p ≤ nmE f l p ∧ nmE f l p ≤ l := by
  have h1 := tkS_r f h
  have h2 := tkE_r f h1.2
  unfold nmE
  omega
theorem nmB_i {f : Nat → Int} {l p : Nat} {lo hi but : Int} (h : nmB f l p lo hi but = true) : (lo ≤ nmV f l p ∧ nmV f l p ≤ hi) ∧ nmV f l p ≠ but := by
  simp only [nmB, decide_eq_true_eq] at h
  exact h.2
/-- what a clause's numbers are: (stands, place, a, b, c) -/
abbrev rzT : Type := Bool × Nat × Int × Int × Int
def nmK (f : Nat → Int) (l p : Nat) (lo hi but : Int) (k : Nat → Int → rzT) : rzT := if nmB f l p lo hi but then k (nmE f l p) (nmV f l p) else (false, tkS f l p, 0, 0, 0)
def rsU (f : Nat → Int) (l : Nat) (n w : Int) (p : Nat) : rzT :=
  if w = 0 then (true, p, 0, 0, 0)
  else if w = 1 then nmK f l p 1 99 (-1) fun p1 x => nmK f l p1 1 99 (-1) fun p2 y => (true, p2, x, y, 0)
  else if w = 2 then nmK f l p 0 (n - 1) (-1) fun p1 x => nmK f l p1 0 (n - 1) x fun p2 y => (true, p2, x, y, 0)
  else if w = 3 then nmK f l p 0 (n - 1) (-1) fun p1 x => nmK f l p1 1 99 (-1) fun p2 y => nmK f l p2 1 99 (-1) fun p3 z => (true, p3, x, y, z)
  else if w = 4 then nmK f l p 0 (n - 1) (-1) fun p1 x => nmK f l p1 0 9 (-1) fun p2 y => (true, p2, x, y, 0)
  else nmK f l p 1 99 (-1) fun p1 x => nmK f l p1 1 99 (-1) fun p2 y => nmK f l p2 0 100 (-1) fun p3 z => (true, p3, x, y, z)
theorem nmK_t {f : Nat → Int} {l p : Nat} {lo hi but : Int} {k : Nat → Int → rzT} (h : nmB f l p lo hi but = true) : nmK f l p lo hi but k = k (nmE f l p) (nmV f l p) := by unfold nmK; rw [if_pos h]
theorem nmK_f {f : Nat → Int} {l p : Nat} {lo hi but : Int} {k : Nat → Int → rzT} (h : nmB f l p lo hi but = false) : nmK f l p lo hi but k = (false, tkS f l p, 0, 0, 0) := by unfold nmK; rw [if_neg (by rw [h]; decide)]
