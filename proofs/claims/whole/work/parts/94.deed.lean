theorem tk_at (R : Nat → Int) (f : Nat → Int) {b m r : Nat} (hb : b = 1 ∨ b = 7 ∨ b = 13) (hm : m ≤ 6) (hr : r < m) (hf : ∀ i, i < 6 → f i = R (b + i)) (M : Int) {i : Nat} (hi : i < 6) : shiftF f r m i = tkR R M r (m - 1) (b + i) := by
  unfold shiftF tkR
  rw [if_neg (show ¬ b + i = 0 by omega)]
  by_cases h : r ≤ i ∧ i + 1 < m
  · rw [if_pos h, if_pos (by omega), hf _ (by omega)]; rfl
  · rw [if_neg h, if_neg (by omega), hf _ hi]
theorem tkR_at (R : Nat → Int) (M : Int) {b r j q : Nat} (hb : b = 1 ∨ b = 7 ∨ b = 13) (hj : j ≤ 5) (hq : q < 6) : tkR R M r j (b + q) = if r ≤ q ∧ q < j then R (b + (q + 1)) else R (b + q) := by
  unfold tkR
  rw [if_neg (show ¬ b + q = 0 by omega)]
  by_cases h : r ≤ q ∧ q < j
  · rw [if_pos h, if_pos (by omega)]; rfl
  · rw [if_neg h, if_neg (by omega)]
theorem wfR_tk {n : Nat} {R : Nat → Int} (h : wfR n R) {m r : Nat} (hm : R 0 = m) (hr : r < m) : wfR n (tkR R ((m : Int) - 1) r (m - 1)) := by
  obtain ⟨h1, h2, h3⟩ := h
  have e0 : tkR R ((m : Int) - 1) r (m - 1) 0 = (m : Int) - 1 := by unfold tkR; rw [if_pos rfl]
  refine ⟨by omega, fun q hq => ?_, fun i hi => ?_⟩
  · rw [e0] at hq
    have k1 := h2 q (by omega)
    have k2 := h2 (q + 1) (by omega)
    rw [tkR_at _ _ (by omega) (by omega) (by omega), tkR_at _ _ (by omega) (by omega) (by omega), tkR_at _ _ (by omega) (by omega) (by omega)]
    by_cases hrq : r ≤ q ∧ q < m - 1
    · rw [if_pos hrq, if_pos hrq, if_pos hrq]; exact k2
    · rw [if_neg hrq, if_neg hrq, if_neg hrq]; exact k1
  · unfold tkR
    rw [if_neg (by omega), if_neg (by omega)]; exact h3 i hi
theorem tkR_cg {R R' : Nat → Int} (M : Int) {r j : Nat} (hj : j ≤ 6) (h : ∀ i, i < 29 → R i = R' i) : ∀ i, i < 29 → tkR R M r j i = tkR R' M r j i := by
  intro i hi
  unfold tkR
  repeat' split
  all_goals first | rfl | exact h _ (by omega)
theorem ag_take (i : Int) (hi : InR i) : agU mX7_take mX8_take [vI i] := by
  intro σ α hI
  obtain ⟨P, l, x, u, hT, hP, hN, hU, hK, hB⟩ := id hI
  have hn10 := hP.1.1
  have hx8 := hU.1.2
  have hu8 := hU.2.1.2.2
  have h06 := hN.1.1
  have hrr := hN.rr
  obtain ⟨m, hm⟩ : ∃ m : Nat, α 96 0 = m := ⟨_, (Int.toNat_of_nonneg h06.1).symm⟩
  rw [hm, Int.toNat_natCast] at hrr
  have hm6 : m ≤ 6 := by omega
  have hm22 : σ 22 4 = (m : Int) := hN.2.1.trans hm
  by_cases hs : 0 ≤ i ∧ i < (m : Int)
  · obtain ⟨r, rfl⟩ := Int.eq_ofNat_of_zero_le hs.1
    have hx := qX7_take σ α hU.1.1 hx8 hU.2.1.1 hu8 hm22 hm6 r (by omega)
    refine ⟨_, 4, 2, fun s' a' => s' = uS (rmS σ x u) 22 4 ((m : Int) - 1) ∧ a' = sh3 (rmA α x) 22 (shiftF (α 24) r m) (shiftF (α 25) r m) (shiftF (α 26) r m), by decide, by decide, hx, ?_⟩
    rintro s1 a1 ⟨rfl, rfl⟩
    have hsh : ∀ q, ¬ (24 ≤ q ∧ q ≤ 26) → sh3 (rmA α x) 22 (shiftF (α 24) r m) (shiftF (α 25) r m) (shiftF (α 26) r m) q = rmA α x q := fun q hq => by unfold sh3; rw [uA_ne _ _ (by omega), uA_ne _ _ (by omega), uA_ne _ _ (by omega)]
    have e6 : sh3 (rmA α x) 22 (shiftF (α 24) r m) (shiftF (α 25) r m) (shiftF (α 26) r m) 96 = α 96 := by rw [hsh _ (by omega), rmA_o _ (by omega) hx8]
    have hmm := qX8_take (uS (rmS σ x u) 22 4 ((m : Int) - 1)) (sh3 (rmA α x) 22 (shiftF (α 24) r m) (shiftF (α 25) r m) (shiftF (α 26) r m)) (u := u) (by rw [uS_ne _ _ (by omega), rmS_o _ (by omega) (by omega)]; exact hU.2.1.2.1) hu8 (n := pnN P) (m := m) (by rw [RR, e6]; exact hrr) r (by omega)
    rw [e6] at hmm
    refine hmm.mono (fun r' s a h => ⟨h.1, ?_⟩)
    rw [h.2.1, h.2.2]
    refine ivA.m hT hP hN hU hK hB (fun q k g1 g2 g3 g4 g5 => by rw [uS_ne _ _ g4, uS_ne _ _ g1, rmS_o _ g2 g3]) (by rw [uS_ne _ _ (by omega), uS_ne _ _ (by omega), rmS_1]) (by rw [uS_ne _ _ (by omega), uS_ne _ _ (by omega), rmS_2]) (by rw [uS_eq]) (by rw [uS_ne _ _ (by omega), uS_ne _ _ (by omega), rmS_f]) (fun q g1 g2 g3 => by rw [uA_ne _ _ g3, hsh q (by omega)]) (fun i hi => by rw [uA_eq, tkR_out _ _ (by omega) (by omega)]) ?_
    have hkp : ∀ i, i < 29 → α 96 i = kpR (α 96) u i := fun i hi => (kpR_lo _ hi).symm
    refine ⟨(wfR_tk hN.1 hm (show r < m by omega)).cg (fun i hi => by rw [uA_eq]; exact (tkR_cg _ (by omega) hkp i hi).symm), ?_, fun i hi => ⟨?_, ?_, ?_⟩, fun i hi => ?_⟩
    · rw [uS_ne _ _ (by omega), uS_eq, uA_eq]; unfold tkR; rw [if_pos rfl]
    · rw [uA_ne _ _ (by omega), uA_eq, sh3_2]
      exact tk_at _ _ (Or.inl rfl) hm6 (by omega) (fun i hi => by rw [show α 24 i = _ from (hN.2.2.1 i hi).1]; exact hkp _ (by omega)) _ hi
    · rw [uA_ne _ _ (by omega), uA_eq, sh3_3]
      exact tk_at _ _ (Or.inr (Or.inl rfl)) hm6 (by omega) (fun i hi => by rw [show α 25 i = _ from (hN.2.2.1 i hi).2.1]; exact hkp _ (by omega)) _ hi
    · rw [uA_ne _ _ (by omega), uA_eq, sh3_4]
      exact tk_at _ _ (Or.inr (Or.inr rfl)) hm6 (by omega) (fun i hi => by rw [show α 26 i = _ from (hN.2.2.1 i hi).2.2]; exact hkp _ (by omega)) _ hi
    · rw [uA_ne _ _ (by omega), uA_eq, hsh _ (by omega), rmA_o _ (by omega) hx8, tkR_out _ _ (by omega) (by omega), ← hkp _ (by omega)]
      exact hN.2.2.2 i hi
  · exact agU.no hI (by decide) (by decide) (qX7_take_o σ α hm22 hm6 i hi (by omega)) (qX8_take_o σ α hrr i hi (by omega))
theorem uF_cg {R R' : Nat → Int} (k : Nat) (v : Int) {N : Nat} (h : ∀ i, i < N → R i = R' i) : ∀ i, i < N → uF R k v i = uF R' k v i := by
  intro i hi
  unfold uF
  split
  · rfl
  · exact h i hi
theorem ag_move (i j v : Int) (hi : InR i) (hj : InR j) (hv : InR v) : agU mX7_move mX8_move [vI i, vI j, vI v] := by
  intro σ α hI
  obtain ⟨P, l, x, u, hT, hP, hN, hU, hK, hB⟩ := id hI
  have hn10 := hP.1.1
  have hx8 := hU.1.2
  have hu8 := hU.2.1.2.2
  by_cases hs : (0 ≤ i ∧ i < (pnN P : Int)) ∧ (0 ≤ j ∧ j < (pnN P : Int)) ∧ i ≠ j
  · obtain ⟨a, rfl⟩ := Int.eq_ofNat_of_zero_le hs.1.1
    obtain ⟨b, rfl⟩ := Int.eq_ofNat_of_zero_le hs.2.1.1
    have ca := hN.1.2.2 a (by omega)
    have cb := hN.1.2.2 b (by omega)
    have hx := qX7_move σ α hP.2.1.1 hn10 hU.1.1 hx8 hU.2.1.1 hu8 a b (by omega) (by omega) (by omega) (α 96 (19 + a)) (α 96 (19 + b)) (hN.2.2.2 a (by omega)) (hN.2.2.2 b (by omega)) ca cb v hv
    by_cases hc : (1 ≤ v ∧ v ≤ 9) ∧ v ≤ α 96 (19 + a) ∧ α 96 (19 + b) + v ≤ 9
    · rw [if_pos hc, if_pos hc] at hx
      refine ⟨_, 4, 2, fun s' a' => s' = rmS σ x u ∧ a' = uA (rmA α x) 23 (uF (uF (α 23) a (α 96 (19 + a) - v)) b (α 96 (19 + b) + v)), by decide, by decide, hx, ?_⟩
      rintro s1 a1 ⟨rfl, rfl⟩
      have e6 : (uA (rmA α x) 23 (uF (uF (α 23) a (α 96 (19 + a) - v)) b (α 96 (19 + b) + v))) 96 = α 96 := by rw [uA_ne _ _ (by decide), rmA_o _ (by omega) hx8]
      have hmm := qX8_move (rmS σ x u) (uA (rmA α x) 23 (uF (uF (α 23) a (α 96 (19 + a) - v)) b (α 96 (19 + b) + v))) (n := pnN P) (by rw [rmS_o _ (by omega) (by omega)]; exact hP.2.2.1.1) hn10 (u := u) (by rw [rmS_o _ (by omega) (by omega)]; exact hU.2.1.2.1) hu8 a b (by omega) (by omega) (by omega) (α 96 (19 + a)) (α 96 (19 + b)) (by rw [e6]) (by rw [e6]) ca cb v hv
      rw [if_pos hc, if_pos hc, e6] at hmm
      refine hmm.mono (fun r s a9 h => ⟨h.1, ?_⟩)
      rw [h.2.1, h.2.2]
      refine ivA.m hT hP hN hU hK hB (fun q k g1 g2 g3 g4 g5 => by rw [uS_ne _ _ g4, rmS_o _ g2 g3]) (by rw [uS_ne _ _ (by omega), rmS_1]) (by rw [uS_ne _ _ (by omega), rmS_2]) (by rw [uS_eq]) (by rw [uS_ne _ _ (by omega), rmS_f]) (fun q g1 g2 g3 => by rw [uA_ne _ _ g3, uA_ne _ _ (by omega)]) (fun i hi => by rw [uA_eq, uF_ne _ _ (by omega), uF_ne _ _ (by omega)]) ?_
      have hw := wfR_ch (wfR_ch hN.1 (i := a) (y := α 96 (19 + a) - v) (by omega) (by omega)) (i := b) (y := α 96 (19 + b) + v) (by omega) (by omega)
      have hkp : ∀ i, i < 29 → uF (uF (α 96) (19 + a) (α 96 (19 + a) - v)) (19 + b) (α 96 (19 + b) + v) i = uF (uF (kpR (α 96) u) (19 + a) (α 96 (19 + a) - v)) (19 + b) (α 96 (19 + b) + v) i := uF_cg _ _ (uF_cg _ _ (fun i hi => (kpR_lo _ hi).symm))
      have hft := ft_ch (ft_ch hN.2 (i := a) (by omega) (α 96 (19 + a) - v)) (i := b) (by omega) (α 96 (19 + b) + v)
      rw [uA_eq, uA_uA] at hft
      refine ⟨hw.cg (fun i hi => by rw [uA_eq]; exact (hkp i hi).symm), (hft.go (s' := uS (rmS σ x u) 95 8 (kpU u : Int)) (a' := uA (uA (rmA α x) 23 (uF (uF (α 23) a (α 96 (19 + a) - v)) b (α 96 (19 + b) + v))) 96 (uF (uF (kpR (α 96) u) (19 + a) (α 96 (19 + a) - v)) (19 + b) (α 96 (19 + b) + v))) ?_ ?_ ?_ ?_ ?_).cg (fun i hi => by rw [uA_eq]; exact hkp i hi)⟩
      · rw [uS_ne _ _ (by omega), rmS_o _ (by omega) (by omega)]
      · rw [uA_ne _ _ (by omega), uA_eq, uA_eq]
      · rw [uA_ne _ _ (by omega), uA_ne _ _ (by omega), uA_ne _ _ (by omega), rmA_o _ (by omega) hx8]
      · rw [uA_ne _ _ (by omega), uA_ne _ _ (by omega), uA_ne _ _ (by omega), rmA_o _ (by omega) hx8]
      · rw [uA_ne _ _ (by omega), uA_ne _ _ (by omega), uA_ne _ _ (by omega), rmA_o _ (by omega) hx8]
    · rw [if_neg hc, if_neg hc] at hx
      have hmm := qX8_move σ α hP.2.2.1.1 hn10 hU.2.1.2.1 hu8 a b (by omega) (by omega) (by omega) (α 96 (19 + a)) (α 96 (19 + b)) rfl rfl ca cb v hv
      rw [if_neg hc, if_neg hc] at hmm
      exact agU.no hI (by decide) (by decide) hx hmm
  · exact agU.no hI (by decide) (by decide) (qX7_move_o σ α hP.2.1.1 hn10 i j hi hj hs v) (qX8_move_o σ α hP.2.2.1.1 hn10 i j hi hj (by omega) v)
theorem ag_chill (i v : Int) (hi : InR i) (hv : InR v) : agU mX7_chill mX8_chill [vI i, vI v] := by
  intro σ α hI
  obtain ⟨P, l, x, u, hT, hP, hN, hU, hK, hB⟩ := id hI
  have hn10 := hP.1.1
  have hx8 := hU.1.2
  have hu8 := hU.2.1.2.2
  by_cases hs : 0 ≤ i ∧ i < (pnN P : Int)
  · obtain ⟨a, rfl⟩ := Int.eq_ofNat_of_zero_le hs.1
    have ca := hN.1.2.2 a (by omega)
    by_cases hv2 : 0 ≤ v ∧ v ≤ 9
    · by_cases hne : α 96 (19 + a) = v
      · exact agU.no hI (by decide) (by decide) (qX7_chill_4 σ α hP.2.1.1 hn10 a (by omega) v hv2 ((hN.2.2.2 a (by omega)).trans hne)) (qX8_chill_4 σ α hP.2.2.1.1 hn10 a (by omega) v hv2 hne)
      · have hwf : WF (pnN P) (pnV P) (fun j => pnK P j + 10 * uF (α 96) (19 + a) v (19 + j)) (pnJ P) := by
          refine ⟨hn10, fun j hj => ?_⟩
          obtain ⟨v1, v2, v3, v4⟩ := hP.1.2.1 j hj
          have hc := (wfR_ch hN.1 (i := a) hv2 (by omega)).2.2 j (by omega)
          exact ⟨v1, by show 1 ≤ pnK P j + 10 * uF (α 96) (19 + a) v (19 + j) ∧ pnK P j + 10 * uF (α 96) (19 + a) v (19 + j) ≤ 189; omega, v3, v4⟩
        have huf : ∀ j, j < 10 → uF (α 23) a v j = uF (α 96) (19 + a) v (19 + j) := fun j hj => by
          unfold uF
          by_cases h : j = a
          · rw [if_pos h, if_pos (by omega)]
          · rw [if_neg h, if_neg (by omega)]; exact hN.2.2.2 j hj
        have hpv : PV (rmS σ x u) (uA (rmA α x) 23 (uF (α 23) a v)) (pnN P) (pnV P) (fun j => pnK P j + 10 * uF (α 96) (19 + a) v (19 + j)) (pnJ P) (pnC P) := by
          obtain ⟨w, g, -⟩ := hP
          refine ⟨by rw [rmS_o _ (by omega) (by omega)]; exact g.1, by rw [rmS_o _ (by omega) (by omega)]; exact g.2.1.2.2, w.2.2.2.2.2.2, fun j hj => ⟨?_, ?_, ?_⟩⟩
          · rw [uA_ne _ _ (by omega), rmA_o _ (by omega) hx8]; exact (g.2.2.1 j (by omega)).1
          · rw [uA_ne _ _ (by omega), rmA_o _ (by omega) hx8, uA_eq, huf j (by omega), show α 5 j = pnK P j from (g.2.2.1 j (by omega)).2]
          · rw [uA_ne _ _ (by omega), rmA_o _ (by omega) hx8]; exact g.2.2.2.1 j hj
        have hx := qX7_chill σ α hU.1.1 hx8 hU.2.1.1 hu8 hP.2.1.1 hwf a (by omega) v hv2 (α 96 (19 + a)) (hN.2.2.2 a (by omega)) ca hne hpv
        refine ⟨_, 6, 5, _, by decide, by decide, hx, fun s1 a1 hQ => ?_⟩
        obtain ⟨⟨y, rfl⟩, hag⟩ := hQ
        have e6 : a1 96 = α 96 := by rw [hag 96 (by omega), uA_ne _ _ (by decide), rmA_o _ (by omega) hx8]
        have es : ∀ q k, ¬ (q = 71 ∧ k = 8) → q ≠ 27 → ¬ (q = 29 + 5 * x ∧ k = 4) → uS (rmS σ x u) 71 8 y q k = σ q k := fun q k g1 g2 g3 => by rw [uS_ne _ _ g1, rmS_o _ g2 g3]
        have ea : ∀ q, ¬ (72 ≤ q ∧ q ≤ 77) → q ≠ 23 → a1 q = rmA α x q := fun q g1 g2 => by rw [hag q (by omega), uA_ne _ _ g2]
        have hrv : RV (uS (uS (rmS σ x u) 71 8 y) 95 8 (kpU u : Int)) (uA a1 96 (uF (kpR (a1 96) u) (19 + a) v)) (pnN P) (pnV P) (fun j => pnK P j + 10 * uF (α 96) (19 + a) v (19 + j)) (pnJ P) := by
          refine ⟨by rw [uS_ne _ _ (by omega), es _ _ (by omega) (by omega) (by omega)]; exact hP.2.2.1.1, fun j hj => ?_⟩
          obtain ⟨v1, v2, v3⟩ := hP.2.2.2.1 j (by omega)
          refine ⟨?_, ?_, ?_⟩
          · rw [uA_ne _ _ (by decide), ea _ (by omega) (by omega), rmA_o _ (by omega) hx8]; exact v1
          · rw [uA_ne _ _ (by decide), ea _ (by omega) (by omega), rmA_o _ (by omega) hx8, v2, uA_eq, e6, uF_cg (R' := α 96) (N := 29) _ _ (fun i hi => kpR_lo _ hi) _ (by omega)]
          · rw [uA_ne _ _ (by decide), ea _ (by omega) (by omega), rmA_o _ (by omega) hx8]; exact v3
        have hmm := qX8_chill (uS (rmS σ x u) 71 8 y) a1 (u := u) (by rw [es _ _ (by omega) (by omega) (by omega)]; exact hU.2.1.2.1) hu8 (n := pnN P) (by rw [es _ _ (by omega) (by omega) (by omega)]; exact hP.2.2.1.1) hwf a (by omega) v hv2 (α 96 (19 + a)) (by rw [e6]) ca hne hrv
        rw [e6] at hmm
        refine hmm.mono (fun r s b h => ⟨h.1, ?_⟩)
        rw [h.2.1, h.2.2]
        refine ivA.m hT hP hN hU hK hB (fun q k g1 g2 g3 g4 g5 => by rw [uS_ne _ _ g4, es _ _ g5 g2 g3]) (by rw [uS_ne _ _ (by omega), uS_ne _ _ (by omega), rmS_1]) (by rw [uS_ne _ _ (by omega), uS_ne _ _ (by omega), rmS_2]) (by rw [uS_eq]) (by rw [uS_ne _ _ (by omega), uS_ne _ _ (by omega), rmS_f]) (fun q g1 g2 g3 => by rw [uA_ne _ _ g3, ea q g2 (by omega)]) (fun i hi => by rw [uA_eq, uF_ne _ _ (by omega)]) ?_
        have hkp : ∀ i, i < 29 → uF (α 96) (19 + a) v i = uF (kpR (α 96) u) (19 + a) v i := uF_cg _ _ (fun i hi => (kpR_lo _ hi).symm)
        have hft := ft_ch hN.2 (i := a) (by omega) v
        refine ⟨(wfR_ch hN.1 hv2 (show a < 10 by omega)).cg (fun i hi => by rw [uA_eq]; exact (hkp i hi).symm), (hft.go (s' := uS (uS (rmS σ x u) 71 8 y) 95 8 (kpU u : Int)) (a' := uA a1 96 (uF (kpR (α 96) u) (19 + a) v)) ?_ ?_ ?_ ?_ ?_).cg (fun i hi => by rw [uA_eq]; exact hkp i hi)⟩
        · rw [uS_ne _ _ (by omega), es _ _ (by omega) (by omega) (by omega)]
        · rw [uA_ne _ _ (by omega), hag _ (by omega), uA_eq, uA_eq]
        · rw [uA_ne _ _ (by omega), uA_ne _ _ (by omega), ea _ (by omega) (by omega), rmA_o _ (by omega) hx8]
        · rw [uA_ne _ _ (by omega), uA_ne _ _ (by omega), ea _ (by omega) (by omega), rmA_o _ (by omega) hx8]
        · rw [uA_ne _ _ (by omega), uA_ne _ _ (by omega), ea _ (by omega) (by omega), rmA_o _ (by omega) hx8]
    · exact agU.no hI (by decide) (by decide) (qX7_chill_3 σ α hP.2.1.1 hn10 a (by omega) v hv (by omega)) (qX8_chill_3 σ α hP.2.2.1.1 hn10 a (by omega) v hv (by omega))
  · exact agU.no hI (by decide) (by decide) (qX7_chill_o σ α hP.2.1.1 hn10 i hi (by omega) v) (qX8_chill_o σ α hP.2.2.1.1 hn10 i hi (by omega) v)
