theorem nmK_i {f : Nat → Int} {l p : Nat} {lo hi bu : Int} {k : Nat → Int → rzT} (h : (nmK f l p lo hi bu k).1 = true) : nmB f l p lo hi bu = true ∧ nmK f l p lo hi bu k = k (nmE f l p) (nmV f l p) := by
  cases hb : nmB f l p lo hi bu with
  | true => exact ⟨rfl, nmK_t hb⟩
  | false => rw [nmK_f hb] at h; cases h
theorem rsU_0 (f : Nat → Int) (l : Nat) (n : Int) (p : Nat) : rsU f l n 0 p = (true, p, 0, 0, 0) := by simp [rsU]
theorem rsU_1 (f : Nat → Int) (l : Nat) (n : Int) (p : Nat) : rsU f l n 1 p = nmK f l p 1 99 (-1) fun p1 x => nmK f l p1 1 99 (-1) fun p2 y => (true, p2, x, y, 0) := by simp [rsU]
theorem rsU_2 (f : Nat → Int) (l : Nat) (n : Int) (p : Nat) : rsU f l n 2 p = nmK f l p 0 (n - 1) (-1) fun p1 x => nmK f l p1 0 (n - 1) x fun p2 y => (true, p2, x, y, 0) := by simp [rsU]
theorem rsU_3 (f : Nat → Int) (l : Nat) (n : Int) (p : Nat) : rsU f l n 3 p = nmK f l p 0 (n - 1) (-1) fun p1 x => nmK f l p1 1 99 (-1) fun p2 y => nmK f l p2 1 99 (-1) fun p3 z => (true, p3, x, y, z) := by simp [rsU]
theorem rsU_4 (f : Nat → Int) (l : Nat) (n : Int) (p : Nat) : rsU f l n 4 p = nmK f l p 0 (n - 1) (-1) fun p1 x => nmK f l p1 0 9 (-1) fun p2 y => (true, p2, x, y, 0) := by simp [rsU]
theorem rsU_5 (f : Nat → Int) (l : Nat) (n : Int) (p : Nat) : rsU f l n 5 p = nmK f l p 1 99 (-1) fun p1 x => nmK f l p1 1 99 (-1) fun p2 y => nmK f l p2 0 100 (-1) fun p3 z => (true, p3, x, y, z) := by simp [rsU]
/-- what a clause's numbers keep to -/
def okU (w x y z n m : Int) : Prop := (w = 1 → n ≠ 10 ∧ (1 ≤ x ∧ x ≤ 99) ∧ 1 ≤ y ∧ y ≤ 99) ∧ (w = 2 → (0 ≤ x ∧ x < n) ∧ (0 ≤ y ∧ y < n) ∧ y ≠ x) ∧ (w = 3 → m ≠ 6 ∧ (0 ≤ x ∧ x < n) ∧ (1 ≤ y ∧ y ≤ 99) ∧ 1 ≤ z ∧ z ≤ 99) ∧ (w = 4 → (0 ≤ x ∧ x < n) ∧ 0 ≤ y ∧ y ≤ 9) ∧ (w = 5 → (1 ≤ x ∧ x ≤ 99) ∧ (1 ≤ y ∧ y ≤ 99) ∧ 0 ≤ z ∧ z ≤ 100)
theorem rsU_ok {f : Nat → Int} {l p : Nat} {n w : Int} (hp : p ≤ l) (hw : 0 ≤ w ∧ w ≤ 5) (h : (rsU f l n w p).1 = true) (m : Int) (h1 : w = 1 → n ≠ 10) (h3 : w = 3 → m ≠ 6) : okU w (rsU f l n w p).2.2.1 (rsU f l n w p).2.2.2.1 (rsU f l n w p).2.2.2.2 n m ∧ (rsU f l n w p).2.1 ≤ l := by
  have e1 := (nmE_r f hp).2
  have e2 := (nmE_r f e1).2
  have e3 := (nmE_r f e2).2
  rcases (show w = 0 ∨ w = 1 ∨ w = 2 ∨ w = 3 ∨ w = 4 ∨ w = 5 by omega) with rfl | rfl | rfl | rfl | rfl | rfl
  · rw [rsU_0]; exact ⟨⟨fun h => absurd h (by decide), fun h => absurd h (by decide), fun h => absurd h (by decide), fun h => absurd h (by decide), fun h => absurd h (by decide)⟩, hp⟩
  · rw [rsU_1] at h ⊢
    obtain ⟨a1, b1⟩ := nmK_i h
    rw [b1] at h ⊢
    obtain ⟨a2, b2⟩ := nmK_i h
    rw [b2]
    have c1 := nmB_i a1
    have c2 := nmB_i a2
    exact ⟨⟨fun _ => ⟨h1 rfl, c1.1, c2.1⟩, fun h => absurd h (by decide), fun h => absurd h (by decide), fun h => absurd h (by decide), fun h => absurd h (by decide)⟩, e2⟩
  · rw [rsU_2] at h ⊢
    obtain ⟨a1, b1⟩ := nmK_i h
    rw [b1] at h ⊢
    obtain ⟨a2, b2⟩ := nmK_i h
    rw [b2]
    have c1 := nmB_i a1
    have c2 := nmB_i a2
    have d1 : 0 ≤ nmV f l p ∧ nmV f l p < n := by omega
    have d2 : 0 ≤ nmV f l (nmE f l p) ∧ nmV f l (nmE f l p) < n := by omega
    exact ⟨⟨fun h => absurd h (by decide), fun _ => ⟨d1, d2, c2.2⟩, fun h => absurd h (by decide), fun h => absurd h (by decide), fun h => absurd h (by decide)⟩, e2⟩
  · rw [rsU_3] at h ⊢
    obtain ⟨a1, b1⟩ := nmK_i h
    rw [b1] at h ⊢
    obtain ⟨a2, b2⟩ := nmK_i h
    rw [b2] at h ⊢
    obtain ⟨a3, b3⟩ := nmK_i h
    rw [b3]
    have c1 := nmB_i a1
    have c2 := nmB_i a2
    have c3 := nmB_i a3
    have d1 : 0 ≤ nmV f l p ∧ nmV f l p < n := by omega
    exact ⟨⟨fun h => absurd h (by decide), fun h => absurd h (by decide), fun _ => ⟨h3 rfl, d1, c2.1, c3.1⟩, fun h => absurd h (by decide), fun h => absurd h (by decide)⟩, e3⟩
  · rw [rsU_4] at h ⊢
    obtain ⟨a1, b1⟩ := nmK_i h
    rw [b1] at h ⊢
    obtain ⟨a2, b2⟩ := nmK_i h
    rw [b2]
    have c1 := nmB_i a1
    have c2 := nmB_i a2
    have d1 : 0 ≤ nmV f l p ∧ nmV f l p < n := by omega
    exact ⟨⟨fun h => absurd h (by decide), fun h => absurd h (by decide), fun h => absurd h (by decide), fun _ => ⟨d1, c2.1⟩, fun h => absurd h (by decide)⟩, e2⟩
  · rw [rsU_5] at h ⊢
    obtain ⟨a1, b1⟩ := nmK_i h
    rw [b1] at h ⊢
    obtain ⟨a2, b2⟩ := nmK_i h
    rw [b2] at h ⊢
    obtain ⟨a3, b3⟩ := nmK_i h
    rw [b3]
    have c1 := nmB_i a1
    have c2 := nmB_i a2
    have c3 := nmB_i a3
    exact ⟨⟨fun h => absurd h (by decide), fun h => absurd h (by decide), fun h => absurd h (by decide), fun h => absurd h (by decide), fun _ => ⟨c1.1, c2.1, c3.1⟩⟩, e3⟩
/-- the word of the clause behind p -/
def wpU (f : Nat → Int) (l p : Nat) : Int := wdU f (tkS f l p) (tkE f l (tkS f l p))
theorem wpU_r (f : Nat → Int) (l p : Nat) : -1 ≤ wpU f l p ∧ wpU f l p ≤ 5 := wdU_r _ _ _
theorem clU_f {f : Nat → Int} {l p : Nat} {n m : Int} (h : wpU f l p = -1 ∨ (wpU f l p = 1 ∧ n = 10) ∨ (wpU f l p = 3 ∧ m = 6)) : clU f l n m p = (false, tkS f l p, 0, 0, 0) := by unfold clU; exact if_pos h
theorem clU_t {f : Nat → Int} {l p : Nat} {n m : Int} (h : ¬ (wpU f l p = -1 ∨ (wpU f l p = 1 ∧ n = 10) ∨ (wpU f l p = 3 ∧ m = 6))) : clU f l n m p = rsU f l n (wpU f l p) (tkE f l (tkS f l p)) := by unfold clU; exact if_neg h
theorem clU_ok {f : Nat → Int} {l p : Nat} {n m : Int} (hp : p ≤ l) (h : (clU f l n m p).1 = true) : (0 ≤ wpU f l p ∧ wpU f l p ≤ 5) ∧ okU (wpU f l p) (clU f l n m p).2.2.1 (clU f l n m p).2.2.2.1 (clU f l n m p).2.2.2.2 n m ∧ (clU f l n m p).2.1 ≤ l := by
  have hr := wpU_r f l p
  by_cases hc : wpU f l p = -1 ∨ (wpU f l p = 1 ∧ n = 10) ∨ (wpU f l p = 3 ∧ m = 6)
  · rw [clU_f hc] at h; cases h
  · rw [clU_t hc] at h ⊢
    exact ⟨by omega, rsU_ok ((tkE_r f (tkS_r f hp).2).2.1) (by omega) h m (by omega) (by omega)⟩
/-- a plan: sections, volumes, skins, joints, its row of risers and chills, its rule -/
abbrev pnT : Type := Nat × (Nat → Int) × (Nat → Int) × (Nat → Int) × (Nat → Int) × Int × Int × Int
def pnN (P : pnT) : Nat := P.1
def pnV (P : pnT) : Nat → Int := P.2.1
def pnK (P : pnT) : Nat → Int := P.2.2.1
def pnJ (P : pnT) : Nat → Int := P.2.2.2.1
def pnR (P : pnT) : Nat → Int := P.2.2.2.2.1
def pnA (P : pnT) : Int := P.2.2.2.2.2.1
def pnB (P : pnT) : Int := P.2.2.2.2.2.2.1
def pnC (P : pnT) : Int := P.2.2.2.2.2.2.2
def jnF (N : Nat → Int) (i j : Nat) : Nat → Int := uF (uF N i (((N i).toNat ||| 2 ^ j : Nat) : Int)) j (((N j).toNat ||| 2 ^ i : Nat) : Int)
def doU (w x y z : Int) (P : pnT) : pnT :=
  if w = 0 then (0, pnV P, pnK P, fun _ => 0, anR (pnR P) 10, 6, 5, 50)
  else if w = 1 then (pnN P + 1, uF (pnV P) (pnN P) x, uF (pnK P) (pnN P) y, pnJ P, pnR P, pnA P, pnB P, pnC P)
  else if w = 2 then (pnN P, pnV P, pnK P, jnF (pnJ P) x.toNat y.toNat, pnR P, pnA P, pnB P, pnC P)
  else if w = 3 then (pnN P, pnV P, pnK P, pnJ P, arR (pnR P) (pnR P 0).toNat x y z, pnA P, pnB P, pnC P)
  else if w = 4 then (pnN P, pnV P, pnK P, pnJ P, uF (pnR P) (19 + x.toNat) y, pnA P, pnB P, pnC P)
  else (pnN P, pnV P, pnK P, pnJ P, pnR P, x, y, z)
theorem doU_0 (x y z : Int) (P : pnT) : doU 0 x y z P = (0, pnV P, pnK P, fun _ => 0, anR (pnR P) 10, 6, 5, 50) := by simp [doU]
theorem doU_1 (x y z : Int) (P : pnT) : doU 1 x y z P = (pnN P + 1, uF (pnV P) (pnN P) x, uF (pnK P) (pnN P) y, pnJ P, pnR P, pnA P, pnB P, pnC P) := by simp [doU]
theorem doU_2 (x y z : Int) (P : pnT) : doU 2 x y z P = (pnN P, pnV P, pnK P, jnF (pnJ P) x.toNat y.toNat, pnR P, pnA P, pnB P, pnC P) := by simp [doU]
theorem doU_3 (x y z : Int) (P : pnT) : doU 3 x y z P = (pnN P, pnV P, pnK P, pnJ P, arR (pnR P) (pnR P 0).toNat x y z, pnA P, pnB P, pnC P) := by simp [doU]
theorem doU_4 (x y z : Int) (P : pnT) : doU 4 x y z P = (pnN P, pnV P, pnK P, pnJ P, uF (pnR P) (19 + x.toNat) y, pnA P, pnB P, pnC P) := by simp [doU]
theorem doU_5 (x y z : Int) (P : pnT) : doU 5 x y z P = (pnN P, pnV P, pnK P, pnJ P, pnR P, x, y, z) := by simp [doU]
/-- a row of risers and chills that keeps to its bounds -/
def wfR (n : Nat) (R : Nat → Int) : Prop := (0 ≤ R 0 ∧ R 0 ≤ 6) ∧ (∀ r : Nat, (r : Int) < R 0 → (0 ≤ R (1 + r) ∧ R (1 + r) < n) ∧ (1 ≤ R (7 + r) ∧ R (7 + r) ≤ 99) ∧ (1 ≤ R (13 + r) ∧ R (13 + r) ≤ 99)) ∧ ∀ i, i < 10 → 0 ≤ R (19 + i) ∧ R (19 + i) ≤ 9
def wfP (P : pnT) : Prop := pnN P ≤ 10 ∧ (∀ i, i < pnN P → (1 ≤ pnV P i ∧ pnV P i ≤ 99) ∧ (1 ≤ pnK P i ∧ pnK P i ≤ 99) ∧ (0 ≤ pnJ P i ∧ pnJ P i < 1024) ∧ hasB (pnJ P i) i = false) ∧ (∀ i, pnN P ≤ i → pnJ P i = 0) ∧ wfR (pnN P) (pnR P) ∧ (1 ≤ pnA P ∧ pnA P ≤ 99) ∧ (1 ≤ pnB P ∧ pnB P ≤ 99) ∧ 0 ≤ pnC P ∧ pnC P ≤ 100
theorem or_lt10 {a b : Nat} (ha : a < 1024) (hb : b < 10) : a ||| 2 ^ b < 1024 := Nat.or_lt_two_pow (n := 10) ha (Nat.pow_lt_pow_right (by decide) hb)
theorem or_bit {x : Int} {i j : Nat} (hx : 0 ≤ x) (h : hasB x i = false) (hij : i ≠ j) : hasB ((x.toNat ||| 2 ^ j : Nat) : Int) i = false := by
  obtain ⟨a, rfl⟩ := Int.eq_ofNat_of_zero_le hx
  rw [hasB_nat] at h ⊢
  rw [Int.toNat_natCast, Nat.testBit_or, h, Nat.testBit_two_pow]
  simp; omega
theorem jn_wf {n : Nat} {N : Nat → Int} (hn : n ≤ 10) (h : ∀ i, i < n → (0 ≤ N i ∧ N i < 1024) ∧ hasB (N i) i = false) {i j : Nat} (hi : i < n) (hj : j < n) (hij : j ≠ i) : ∀ k, k < n → (0 ≤ jnF N i j k ∧ jnF N i j k < 1024) ∧ hasB (jnF N i j k) k = false := by
  intro k hk
  have h1 := h i hi
  have h2 := h j hj
  unfold jnF uF
  by_cases hkj : k = j
  · subst hkj
    rw [if_pos rfl]
    have := or_lt10 (a := (N k).toNat) (b := i) (by omega) (by omega)
    exact ⟨⟨by omega, by omega⟩, or_bit h2.1.1 h2.2 hij⟩
  · rw [if_neg hkj]
    by_cases hki : k = i
    · subst hki
      rw [if_pos rfl]
      have := or_lt10 (a := (N k).toNat) (b := j) (by omega) (by omega)
      exact ⟨⟨by omega, by omega⟩, or_bit h1.1.1 h1.2 hkj⟩
    · rw [if_neg hki]; exact h k hk
theorem wfR_ar {n : Nat} {R : Nat → Int} (h : wfR n R) (hm : R 0 ≠ 6) {x y z : Int} (hx : 0 ≤ x ∧ x < n) (hy : 1 ≤ y ∧ y ≤ 99) (hz : 1 ≤ z ∧ z ≤ 99) : wfR n (arR R (R 0).toNat x y z) := by
  obtain ⟨h1, h2, h3⟩ := h
  have e0 : arR R (R 0).toNat x y z 0 = R 0 + 1 := by unfold arR; rw [uF_eq]; omega
  refine ⟨by omega, fun r hr => ?_, fun i hi => ?_⟩
  · rw [e0] at hr
    unfold arR uF
    by_cases hrm : r = (R 0).toNat
    · rw [if_neg (by omega), if_neg (by omega), if_neg (by omega), if_pos (by omega), if_neg (by omega), if_neg (by omega), if_pos (by omega), if_neg (by omega), if_pos (by omega)]
      exact ⟨hx, hy, hz⟩
    · rw [if_neg (by omega), if_neg (by omega), if_neg (by omega), if_neg (by omega), if_neg (by omega), if_neg (by omega), if_neg (by omega), if_neg (by omega), if_neg (by omega), if_neg (by omega), if_neg (by omega), if_neg (by omega)]
      exact h2 r (by omega)
  · unfold arR uF
    rw [if_neg (by omega), if_neg (by omega), if_neg (by omega), if_neg (by omega)]
    exact h3 i hi
theorem wfR_an {R : Nat → Int} : wfR 0 (anR R 10) := by
  refine ⟨by simp [anR], fun r hr => ?_, fun i hi => ?_⟩
  · simp [anR] at hr; omega
  · unfold anR; rw [if_pos (by omega)]; omega
theorem wfR_ch {n : Nat} {R : Nat → Int} (h : wfR n R) {i : Nat} {y : Int} (hy : 0 ≤ y ∧ y ≤ 9) (hi : i < 10) : wfR n (uF R (19 + i) y) := by
  obtain ⟨h1, h2, h3⟩ := h
  refine ⟨by rw [uF_ne _ _ (by omega)]; exact h1, fun r hr => ?_, fun j hj => ?_⟩
  · rw [uF_ne _ _ (by omega)] at hr
    rw [uF_ne _ _ (by omega), uF_ne _ _ (by omega), uF_ne _ _ (by omega)]
    exact h2 r hr
  · unfold uF
    split
    · exact hy
    · exact h3 j hj
theorem wfR_n {n n' : Nat} {R : Nat → Int} (h : wfR n R) (hn : n ≤ n') : wfR n' R := ⟨h.1, fun r hr => by have := h.2.1 r hr; omega, h.2.2⟩
theorem doU_wf {P : pnT} (h : wfP P) {w x y z : Int} (hw : 0 ≤ w ∧ w ≤ 5) (hk : okU w x y z (pnN P) (pnR P 0)) : wfP (doU w x y z P) := by
  obtain ⟨h1, h2, h3, h4, h5⟩ := h
  rcases (show w = 0 ∨ w = 1 ∨ w = 2 ∨ w = 3 ∨ w = 4 ∨ w = 5 by omega) with rfl | rfl | rfl | rfl | rfl | rfl
  · rw [doU_0]
    exact ⟨by show 0 ≤ 10; decide, fun i hi => absurd hi (by show ¬ i < 0; omega), fun i _ => rfl, wfR_an, by show (1 : Int) ≤ 6 ∧ (6 : Int) ≤ 99; decide, by show (1 : Int) ≤ 5 ∧ (5 : Int) ≤ 99; decide, by show (0 : Int) ≤ 50; decide, by show (50 : Int) ≤ 100; decide⟩
  · rw [doU_1]
    obtain ⟨k1, k2, k3⟩ := hk.1 rfl
    refine ⟨by show pnN P + 1 ≤ 10; omega, fun i hi => ?_, fun i hi => h3 i (by have : pnN P + 1 ≤ i := hi; omega), wfR_n h4 (by show pnN P ≤ pnN P + 1; omega), h5⟩
    have hi : i < pnN P + 1 := hi
    show (1 ≤ uF (pnV P) (pnN P) x i ∧ uF (pnV P) (pnN P) x i ≤ 99) ∧ (1 ≤ uF (pnK P) (pnN P) y i ∧ uF (pnK P) (pnN P) y i ≤ 99) ∧ (0 ≤ pnJ P i ∧ pnJ P i < 1024) ∧ hasB (pnJ P i) i = false
    by_cases hn : i = pnN P
    · subst hn
      rw [uF_eq, uF_eq, h3 _ (Nat.le_refl _)]
      refine ⟨k2, k3, by decide, ?_⟩
      rw [hasB_0]; simp
    · rw [uF_ne _ _ hn, uF_ne _ _ hn]
      exact h2 i (by omega)
  · rw [doU_2]
    obtain ⟨k1, k2, k3⟩ := hk.2.1 rfl
    have hj := jn_wf h1 (fun i hi => (h2 i hi).2.2) (i := x.toNat) (j := y.toNat) (by omega) (by omega) (by omega)
    refine ⟨h1, fun i hi => ⟨(h2 i hi).1, (h2 i hi).2.1, hj i hi⟩, fun i hi => ?_, h4, h5⟩
    have hi : pnN P ≤ i := hi
    show jnF (pnJ P) x.toNat y.toNat i = 0
    unfold jnF
    rw [uF_ne _ _ (by omega), uF_ne _ _ (by omega)]
    exact h3 i hi
  · rw [doU_3]
    obtain ⟨k1, k2, k3, k4⟩ := hk.2.2.1 rfl
    exact ⟨h1, h2, h3, wfR_ar h4 k1 k2 k3 k4, h5⟩
  · rw [doU_4]
    obtain ⟨k1, k2⟩ := hk.2.2.2.1 rfl
    exact ⟨h1, h2, h3, wfR_ch h4 k2 (by omega), h5⟩
  · rw [doU_5]
    obtain ⟨k1, k2, k3⟩ := hk.2.2.2.2 rfl
    exact ⟨h1, h2, h3, h4, k1, k2, k3⟩
/-- the clause behind p done -/
def dpU (f : Nat → Int) (l p : Nat) (P : pnT) : pnT := doU (wpU f l p) (clU f l (pnN P) (pnR P 0) p).2.2.1 (clU f l (pnN P) (pnR P 0) p).2.2.2.1 (clU f l (pnN P) (pnR P 0) p).2.2.2.2 P
theorem dpU_wf {f : Nat → Int} {l p : Nat} {P : pnT} (hp : p ≤ l) (h : wfP P) (hc : (clU f l (pnN P) (pnR P 0) p).1 = true) : wfP (dpU f l p P) := by
  obtain ⟨h1, h2, -⟩ := clU_ok hp hc
  exact doU_wf h h1 h2
/-- reading: (stands, place, clauses, plan) -/
abbrev rdT : Type := Bool × Nat × Nat × pnT
def rrU (f : Nat → Int) (l k : Nat) (g : Nat → pnT → rdT) (p : Nat) (P : pnT) : rdT :=
  if tkS f l p < l then (if f (tkS f l p) = 59 ∧ k ≠ 0 then g (tkE f l (tkS f l p)) P else (false, tkS f l p, 0, P)) else (true, tkS f l p, 24 - k, P)
def rdU (f : Nat → Int) (l : Nat) : Nat → Nat → pnT → rdT
  | 0, p, P => (false, tkS f l p, 0, P)
  | k + 1, p, P => if (clU f l (pnN P) (pnR P 0) p).1 then rrU f l k (rdU f l k) (clU f l (pnN P) (pnR P 0) p).2.1 (dpU f l p P) else (false, (clU f l (pnN P) (pnR P 0) p).2.1, 0, P)
