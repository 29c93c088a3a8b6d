theorem kpR_a (R : Nat → Int) {u j k : Nat} (hu : u < 8) (hj : j < u) (hk : k < 29) : kpR R u (29 + 29 * j + k) = R (29 + 29 * j + k) := by
  unfold kpR
  rw [if_neg (by omega), cpR_out _ (by omega)]
theorem kpR_n (R : Nat → Int) {u k : Nat} (hu : u < 8) (hk : k < 29) : kpR R u (29 + 29 * u + k) = R k := by
  unfold kpR
  rw [if_neg (by omega), cpR_in _ hk, Nat.zero_add]
theorem kpR_b (R : Nat → Int) {j k : Nat} (hj : j < 7) (hk : k < 29) : kpR R 8 (29 + 29 * j + k) = R (29 + 29 * (j + 1) + k) := by
  unfold kpR
  rw [if_pos rfl, cpR_out _ (by omega), show 29 + 29 * j + k = 29 + (29 * j + k) by omega, cpR_in _ (by omega)]
  congr 1
  omega
theorem kpR_c (R : Nat → Int) {k : Nat} (hk : k < 29) : kpR R 8 (29 + 29 * 7 + k) = R k := by
  unfold kpR
  rw [if_pos rfl, show 29 + 29 * 7 + k = 232 + k by omega, cpR_in _ hk, Nat.zero_add, cpR_out _ (by omega)]
theorem kpR_h (R : Nat → Int) {u i : Nat} (hu : u ≤ 8) (hi : 261 ≤ i) : kpR R u i = R i := by
  unfold kpR
  split
  · rw [cpR_out _ (by omega), cpR_out _ (by omega)]
  · rw [cpR_out _ (by omega)]
theorem ivU.rm {σ α s' a' : St} {n x u : Nat} (hU : ivU σ α n x u) (hN : ivN σ α n) (h1 : s' 27 1 = ((x : Int) + 1) % 8) (h2 : s' 27 2 = if 8 < (u : Int) + 1 then 8 else (u : Int) + 1) (h8 : s' 95 8 = (kpU u : Int)) (hf : s' (29 + 5 * x) 4 = σ 22 4) (hs : ∀ y, y < 8 → y ≠ x → s' (29 + 5 * y) 4 = σ (29 + 5 * y) 4) (ha : ∀ q, 29 ≤ q → q ≤ 68 → a' q = rmA α x q) (a6 : ∀ k, 29 ≤ k → k < 261 → a' 96 k = kpR (α 96) u k) : ivU s' a' n ((x + 1) % 8) (kpU u) := by
  obtain ⟨g1, g2, g3⟩ := hU
  have hk8 : kpU u = if u = 8 then 8 else u + 1 := rfl
  have old : ∀ {y : Nat} {R R' : Nat → Int}, y < 8 → y ≠ x → ftU σ α (29 + 5 * y) R → (∀ k, k < 29 → R k = R' k) → ftU s' a' (29 + 5 * y) R' := by
    intro y R R' hy hyx hft hRR
    refine (hft.go (s' := s') (a' := a') (hs y hy hyx) ?_ ?_ ?_ ?_).cg hRR
    · rw [ha _ (by omega) (by omega)]; exact fcA_o _ (by omega)
    · rw [ha _ (by omega) (by omega)]; exact fcA_o _ (by omega)
    · rw [ha _ (by omega) (by omega)]; exact fcA_o _ (by omega)
    · rw [ha _ (by omega) (by omega)]; exact fcA_o _ (by omega)
  have new : ∀ {R' : Nat → Int}, (∀ k, k < 29 → α 96 k = R' k) → ftU s' a' (29 + 5 * x) R' := by
    intro R' hRR
    have hc := hN.2.copy (p := 29 + 5 * x) (q := 22) (by omega)
    refine (hc.go (s' := s') (a' := a') ?_ ?_ ?_ ?_ ?_).cg hRR
    · rw [hf, fcS, uS_eq]
    · exact ha _ (by omega) (by omega)
    · exact ha _ (by omega) (by omega)
    · exact ha _ (by omega) (by omega)
    · exact ha _ (by omega) (by omega)
  refine ⟨⟨by rw [h1]; omega, by omega⟩, ⟨?_, h8, ?_⟩, fun j hj => ?_⟩
  · rw [h2, hk8]
    by_cases hu : u = 8
    · rw [if_pos (by omega), if_pos hu]; rfl
    · rw [if_neg (by omega), if_neg hu]; omega
  · rw [hk8]; split <;> omega
  · by_cases hu : u = 8
    · subst hu
      have hj8 : j < 8 := by rw [hk8, if_pos rfl] at hj; exact hj
      by_cases hj7 : j = 7
      · subst hj7
        have e : ∀ k, k < 29 → α 96 k = a' 96 (29 + 29 * 7 + k) := fun k hk => by rw [a6 _ (by omega) (by omega), kpR_c _ hk]
        refine ⟨hN.1.cg (fun k hk => (e k hk).symm), ?_⟩
        rw [hk8, if_pos rfl, show ((x + 1) % 8 + 8 - 8 + 7) % 8 = x by omega]
        exact new e
      · obtain ⟨k1, k2⟩ := g3 (j + 1) (by omega)
        have e : ∀ k, k < 29 → α 96 (29 + 29 * (j + 1) + k) = a' 96 (29 + 29 * j + k) := fun k hk => by rw [a6 _ (by omega) (by omega), kpR_b _ (by omega) hk]
        refine ⟨k1.cg (fun k hk => (e k hk).symm), ?_⟩
        rw [hk8, if_pos rfl, show ((x + 1) % 8 + 8 - 8 + j) % 8 = (x + 8 - 8 + (j + 1)) % 8 by omega]
        exact old (by omega) (by omega) k2 e
    · have hju : j < u + 1 := by rw [hk8, if_neg hu] at hj; exact hj
      by_cases hj7 : j = u
      · subst hj7
        have e : ∀ k, k < 29 → α 96 k = a' 96 (29 + 29 * j + k) := fun k hk => by rw [a6 _ (by omega) (by omega), kpR_n _ (by omega) hk]
        refine ⟨hN.1.cg (fun k hk => (e k hk).symm), ?_⟩
        rw [hk8, if_neg hu, show ((x + 1) % 8 + 8 - (j + 1) + j) % 8 = x by omega]
        exact new e
      · obtain ⟨k1, k2⟩ := g3 j (by omega)
        have e : ∀ k, k < 29 → α 96 (29 + 29 * j + k) = a' 96 (29 + 29 * j + k) := fun k hk => by rw [a6 _ (by omega) (by omega), kpR_a _ (by omega) (by omega) hk]
        refine ⟨k1.cg (fun k hk => (e k hk).symm), ?_⟩
        rw [hk8, if_neg hu, show ((x + 1) % 8 + 8 - (u + 1) + j) % 8 = (x + 8 - u + j) % 8 by omega]
        exact old (by omega) (by omega) k2 e
/-- a deed: the fit is remembered and changed, alike on both sides -/
theorem ivA.m {σ α s' a' : St} {P : pnT} {l x u : Nat} (hT : ivT σ α l) (hP : ivP σ α P) (hN : ivN σ α (pnN P)) (hU : ivU σ α (pnN P) x u) (hK : ivK σ α (pnN P)) (hB : ivB σ α)
    (hs : ∀ q k, ¬ (q = 22 ∧ k = 4) → q ≠ 27 → ¬ (q = 29 + 5 * x ∧ k = 4) → ¬ (q = 95 ∧ k = 8) → ¬ (q = 71 ∧ k = 8) → s' q k = σ q k) (h1 : s' 27 1 = ((x : Int) + 1) % 8) (h2 : s' 27 2 = if 8 < (u : Int) + 1 then 8 else (u : Int) + 1) (h8 : s' 95 8 = (kpU u : Int)) (hf : s' (29 + 5 * x) 4 = σ 22 4)
    (ha : ∀ q, ¬ (23 ≤ q ∧ q ≤ 26) → ¬ (72 ≤ q ∧ q ≤ 77) → q ≠ 96 → a' q = rmA α x q) (a6 : ∀ k, 29 ≤ k → a' 96 k = kpR (α 96) u k) (hN' : ivN s' a' (pnN P)) : ivA s' a' := by
  have hx := hU.1.2
  have hu := hU.2.1.2.2
  have ha2 : ∀ q, ¬ (23 ≤ q ∧ q ≤ 26) → ¬ (72 ≤ q ∧ q ≤ 77) → q ≠ 96 → (q ≤ 29 ∨ 69 ≤ q) → a' q = α q := fun q g1 g2 g3 g4 => by rw [ha q g1 g2 g3]; exact fcA_o _ (by omega)
  have e6 : ∀ k, 261 ≤ k → a' 96 k = α 96 k := fun k hk => by rw [a6 k (by omega), kpR_h _ hu hk]
  have hs2 : ∀ q k, ¬ (q = 22 ∧ k = 4) → q ≠ 27 → ¬ (29 ≤ q ∧ q ≤ 68) → ¬ (q = 95 ∧ k = 8) → ¬ (q = 71 ∧ k = 8) → s' q k = σ q k := fun q k g1 g2 g3 g4 g5 => hs q k g1 g2 (by omega) g4 g5
  exact ⟨P, l, (x + 1) % 8, kpU u, hT.go (hs2 _ _ (by omega) (by omega) (by omega) (by omega) (by omega)) (hs2 _ _ (by omega) (by omega) (by omega) (by omega) (by omega)) (ha2 _ (by omega) (by omega) (by omega) (by omega)) (ha2 _ (by omega) (by omega) (by omega) (by omega)) (ha2 _ (by omega) (by omega) (by omega) (by omega)),
    hP.go (fun q k h => hs2 _ _ (by omega) (by omega) (by omega) (by omega) (by omega)) (hs2 _ _ (by omega) (by omega) (by omega) (by omega) (by omega)) (hs2 _ _ (by omega) (by omega) (by omega) (by omega) (by omega)) (hs2 _ _ (by omega) (by omega) (by omega) (by omega) (by omega)) (hs2 _ _ (by omega) (by omega) (by omega) (by omega) (by omega)) (fun q h1 h2 => ha2 _ (by omega) (by omega) (by omega) (by omega)) (ha2 _ (by omega) (by omega) (by omega) (by omega)) (ha2 _ (by omega) (by omega) (by omega) (by omega)) (ha2 _ (by omega) (by omega) (by omega) (by omega)) (fun k _ => e6 _ (by omega)),
    hN', hU.rm hN h1 h2 h8 hf (fun y hy hyx => hs _ _ (by omega) (by omega) (by omega) (by omega) (by omega)) (fun q g1 g2 => ha _ (by omega) (by omega) (by omega)) (fun k g1 _ => a6 k g1),
    hK.go (ha2 _ (by omega) (by omega) (by omega) (by omega)) (ha2 _ (by omega) (by omega) (by omega) (by omega)) (fun y hy => hs2 _ _ (by omega) (by omega) (by omega) (by omega) (by omega)) (fun q h1 h2 => ha2 _ (by omega) (by omega) (by omega) (by omega)) (fun k g1 _ => e6 _ (by omega)),
    hB.go (fun q h1 h2 => funext fun k => hs2 _ _ (by omega) (by omega) (by omega) (by omega) (by omega)) (fun q h1 h2 => ha2 _ (by omega) (by omega) (by omega) (by omega)) (ha2 _ (by omega) (by omega) (by omega) (by omega)) (ha2 _ (by omega) (by omega) (by omega) (by omega)) (ha2 _ (by omega) (by omega) (by omega) (by omega))⟩
theorem rmS_o (σ : St) {x z q k : Nat} (h1 : q ≠ 27) (h2 : ¬ (q = 29 + 5 * x ∧ k = 4)) : rmS σ x z q k = σ q k := by unfold rmS; rw [uS_ne _ _ (by omega), uS_ne _ _ (by omega), fcS_o _ h2]
theorem rmS_1 (σ : St) (x z : Nat) : rmS σ x z 27 1 = ((x : Int) + 1) % 8 := by unfold rmS; rw [uS_ne _ _ (by omega), uS_eq]
theorem rmS_2 (σ : St) (x z : Nat) : rmS σ x z 27 2 = if 8 < (z : Int) + 1 then 8 else (z : Int) + 1 := by unfold rmS; rw [uS_eq]
theorem rmS_f (σ : St) (x z : Nat) : rmS σ x z (29 + 5 * x) 4 = σ 22 4 := by unfold rmS fcS; rw [uS_ne _ _ (by omega), uS_ne _ _ (by omega), uS_eq]
theorem rmA_o (α : St) {x q : Nat} (h : q ≤ 29 ∨ 69 ≤ q) (hx : x < 8) : rmA α x q = α q := fcA_o _ (by omega)
theorem ag_put (i v k : Int) (hi : InR i) (hv : InR v) (hk : InR k) : agU mX7_put mX8_put [vI i, vI v, vI k] := by
  intro σ α hI
  obtain ⟨P, l, x, u, hT, hP, hN, hU, hK, hB⟩ := id hI
  have hn10 := hP.1.1
  have hx8 := hU.1.2
  have hu8 := hU.2.1.2.2
  have h06 := hN.1.1
  obtain ⟨m, hm⟩ : ∃ m : Nat, α 96 0 = m := ⟨_, (Int.toNat_of_nonneg h06.1).symm⟩
  have hm6 : m ≤ 6 := by omega
  have hm22 : σ 22 4 = (m : Int) := hN.2.1.trans hm
  by_cases hs : 0 ≤ i ∧ i < (pnN P : Int)
  · obtain ⟨j, rfl⟩ := Int.eq_ofNat_of_zero_le hs.1
    have hx := qX7_put σ α hP.2.1.1 hn10 hU.1.1 hx8 hU.2.1.1 hu8 hm22 hm6 j (by omega) v k hv hk
    by_cases hc : ((1 ≤ v ∧ v ≤ 99) ∧ 1 ≤ k ∧ k ≤ 99) ∧ m ≠ 6
    · rw [if_pos hc, if_pos hc] at hx
      refine ⟨_, 4, 2, fun s' a' => s' = uS (rmS σ x u) 22 4 ((m : Int) + 1) ∧ a' = uA (uA (uA (rmA α x) 24 (uF (α 24) m (j : Int))) 25 (uF (α 25) m v)) 26 (uF (α 26) m k), by decide, by decide, hx, ?_⟩
      rintro s1 a1 ⟨rfl, rfl⟩
      have e6 : (uA (uA (uA (rmA α x) 24 (uF (α 24) m (j : Int))) 25 (uF (α 25) m v)) 26 (uF (α 26) m k)) 96 = α 96 := by rw [uA_ne _ _ (by decide), uA_ne _ _ (by decide), uA_ne _ _ (by decide), rmA_o _ (by omega) hx8]
      have hmm := qX8_put (uS (rmS σ x u) 22 4 ((m : Int) + 1)) (uA (uA (uA (rmA α x) 24 (uF (α 24) m (j : Int))) 25 (uF (α 25) m v)) 26 (uF (α 26) m k)) (n := pnN P) (by rw [uS_ne _ _ (by omega), rmS_o _ (by omega) (by omega)]; exact hP.2.2.1.1) hn10 (u := u) (by rw [uS_ne _ _ (by omega), rmS_o _ (by omega) (by omega)]; exact hU.2.1.2.1) hu8 (m := m) (by rw [e6]; exact hm) hm6 (j : Int) v k hi hv hk
      have hc2 : (0 ≤ (j : Int) ∧ (j : Int) ≤ (pnN P : Int) - 1) ∧ ((1 ≤ v ∧ v ≤ 99) ∧ 1 ≤ k ∧ k ≤ 99) ∧ m ≠ 6 := ⟨by omega, hc⟩
      rw [if_pos hc2, if_pos hc2, if_pos hc2.1, e6] at hmm
      refine hmm.mono (fun r s a h => ⟨h.1, ?_⟩)
      rw [h.2.1, h.2.2]
      refine ivA.m hT hP hN hU hK hB (fun q k g1 g2 g3 g4 g5 => by rw [uS_ne _ _ g4, uS_ne _ _ g1, rmS_o _ g2 g3]) (by rw [uS_ne _ _ (by omega), uS_ne _ _ (by omega), rmS_1]) (by rw [uS_ne _ _ (by omega), uS_ne _ _ (by omega), rmS_2]) (by rw [uS_eq]) (by rw [uS_ne _ _ (by omega), uS_ne _ _ (by omega), rmS_f]) (fun q g1 g2 g3 => by rw [uA_ne _ _ g3, uA_ne _ _ (by omega), uA_ne _ _ (by omega), uA_ne _ _ (by omega)]) (fun i hi => by rw [uA_eq]; unfold arR; rw [uF_ne _ _ (by omega), uF_ne _ _ (by omega), uF_ne _ _ (by omega), uF_ne _ _ (by omega)]) ?_
      have ear : ∀ i, i < 29 → arR (α 96) m (j : Int) v k i = arR (kpR (α 96) u) m (j : Int) v k i := fun i hi => by
        unfold arR uF
        repeat' split
        all_goals first | rfl | exact (kpR_lo _ hi).symm
      have hw := wfR_ar hN.1 (by omega) (x := (j : Int)) (y := v) (z := k) (by omega) hc.1.1 hc.1.2
      rw [hm, Int.toNat_natCast] at hw
      have hft := ft_ar hN.2 hm (by omega) (j : Int) v k
      refine ⟨hw.cg (fun i hi => by rw [uA_eq]; exact (ear i hi).symm), (hft.go (s' := uS (uS (rmS σ x u) 22 4 ((m : Int) + 1)) 95 8 (kpU u : Int)) (a' := uA (uA (uA (uA (rmA α x) 24 (uF (α 24) m (j : Int))) 25 (uF (α 25) m v)) 26 (uF (α 26) m k)) 96 (arR (kpR (α 96) u) m (j : Int) v k)) ?_ ?_ ?_ ?_ ?_).cg (fun i hi => by rw [uA_eq]; exact ear i hi)⟩
      · rw [uS_ne _ _ (by omega), uS_eq, uS_eq]
      · rw [uA_ne _ _ (by omega), uA_ne _ _ (by omega), uA_ne _ _ (by omega), uA_ne _ _ (by omega), uA_ne _ _ (by omega), uA_ne _ _ (by omega), uA_ne _ _ (by omega), rmA_o _ (by omega) hx8]
      · rw [uA_ne _ _ (by omega), uA_ne _ _ (by omega), uA_ne _ _ (by omega), uA_eq, uA_ne _ _ (by omega), uA_ne _ _ (by omega), uA_eq]
      · rw [uA_ne _ _ (by omega), uA_ne _ _ (by omega), uA_eq, uA_ne _ _ (by omega), uA_eq]
      · rw [uA_ne _ _ (by omega), uA_eq, uA_eq]
    · rw [if_neg hc, if_neg hc] at hx
      have hmm := qX8_put σ α hP.2.2.1.1 hn10 hU.2.1.2.1 hu8 hm hm6 (j : Int) v k hi hv hk
      have hc2 : ¬ ((0 ≤ (j : Int) ∧ (j : Int) ≤ (pnN P : Int) - 1) ∧ ((1 ≤ v ∧ v ≤ 99) ∧ 1 ≤ k ∧ k ≤ 99) ∧ m ≠ 6) := fun h => hc h.2
      rw [if_neg hc2, if_neg hc2, if_pos (show 0 ≤ (j : Int) ∧ (j : Int) ≤ (pnN P : Int) - 1 by omega)] at hmm
      exact agU.no hI (by decide) (by decide) hx hmm
  · have hmm := qX8_put σ α hP.2.2.1.1 hn10 hU.2.1.2.1 hu8 hm hm6 i v k hi hv hk
    have hc2 : ¬ ((0 ≤ i ∧ i ≤ (pnN P : Int) - 1) ∧ ((1 ≤ v ∧ v ≤ 99) ∧ 1 ≤ k ∧ k ≤ 99) ∧ m ≠ 6) := fun h => by omega
    rw [if_neg hc2, if_neg hc2, if_neg (show ¬ (0 ≤ i ∧ i ≤ (pnN P : Int) - 1) by omega)] at hmm
    exact agU.no hI (by decide) (by decide) (qX7_put_o σ α hP.2.1.1 hn10 i hi (by omega) v k) hmm
