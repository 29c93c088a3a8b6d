theorem fst1_ext {p q : Nat → Bool} : ∀ f k, (∀ i, k ≤ i → i < k + f → p i = q i) → fst1 p f k = fst1 q f k
  | 0, _, _ => rfl
  | f + 1, k, h => by
    rw [fst1, fst1, h k (Nat.le_refl _) (by omega), fst1_ext f (k + 1) (fun i h1 h2 => h i (by omega) (by omega))]
theorem fdrR_hd {a b : Int} {V B hd hd2 on vo sk on2 vo2 sk2 : Nat → Int} {n m : Nat} {set : Int} {t : Nat} (hH : ∀ i, i < n → hd i = hd2 i) (hon : ∀ r, r < m → (0 ≤ on r ∧ on r < n) ∧ on r = on2 r ∧ vo r = vo2 r ∧ sk r = sk2 r) (ht : t < n) : fdrR a b V B hd on vo sk m set t = fdrR a b V B hd2 on2 vo2 sk2 m set t := by
  refine fst1_ext m 0 (fun r _ hr => ?_)
  obtain ⟨h1, h2, h3, h4⟩ := hon r (by omega)
  unfold fdrP
  rw [hH _ (show (on r).toNat < n by omega), hH t ht, h2, h3, h4]
theorem fedR_hd {a b : Int} {V B N hd hd2 on vo sk on2 vo2 sk2 : Nat → Int} {n m : Nat} {set : Int} (hH : ∀ i, i < n → hd i = hd2 i) (hon : ∀ r, r < m → (0 ≤ on r ∧ on r < n) ∧ on r = on2 r ∧ vo r = vo2 r ∧ sk r = sk2 r) : fedR a b V B N n hd on vo sk m set = fedR a b V B N n hd2 on2 vo2 sk2 m set := by
  refine msk_ext (fun i hi => ?_)
  rw [fdrR_hd hH hon hi]
theorem hds_lt {c : Int} {n : Nat} {V B N : Nat → Int} (hW : WF n V B N) {i : Nat} (hi : i < n) : hds c V B N n i < n := hdF_in hW 10 _ (clm_lt hi)
theorem RV.lh {σ α : St} {n : Nat} {V B N : Nat → Int} (h : RV σ α n V B N) (f : Nat → Int) : RV σ (uA α 107 f) n V B N := by
  refine ⟨h.1, fun i hi => ?_⟩
  rw [uA_ne _ _ (by decide), uA_ne _ _ (by decide), uA_ne _ _ (by decide), uA_ne _ _ (by decide)]
  exact h.2 i hi
theorem RR.lh {α : St} {n m : Nat} (h : RR α n m) (f : Nat → Int) : RR (uA α 107 f) n m := by
  unfold RR
  rw [uA_ne _ _ (by decide)]
  exact h
/-- the tops that a set of the reference's risers feeds -/
def fdS (a b c : Int) (V B N : Nat → Int) (n : Nat) (R : Nat → Int) (m : Nat) (s : Int) : Nat := fedR a b V B N n (fun i => (hds c V B N n i : Int)) (fun r => R (1 + r)) (fun r => R (7 + r)) (fun r => R (13 + r)) m s
def LH (c : Int) (V B N : Nat → Int) (n : Nat) (α : St) : St := uA α 107 (hdsF c V B N n (α 107) n)
theorem LH_at (c : Int) (V B N : Nat → Int) (n : Nat) (α : St) {i : Nat} (hi : i < n) : LH c V B N n α 107 i = (hds c V B N n i : Int) := by
  unfold LH; rw [uA_eq]; simp only [hdsF, if_pos hi]
theorem LH_96 (c : Int) (V B N : Nat → Int) (n : Nat) (α : St) : LH c V B N n α 96 = α 96 := by unfold LH; rw [uA_ne _ _ (by decide)]
theorem LH_fed {σ α : St} {n : Nat} {V B N : Nat → Int} (hR : RV σ α n V B N) (hW : WF n V B N) {a b c : Int} (hU : RU σ a b c) {m : Nat} (hM : RR α n m) (set : Int) (hs : 0 ≤ set ∧ set ≤ 2147483647) : CF 5 mX8_fedBy [vR 95, vI set] σ (LH c V B N n α) (some (vI ((fdS a b c V B N n (α 96) m set : Nat) : Int))) σ (LH c V B N n α) := by
  have hb : ∀ i, i < n → 0 ≤ LH c V B N n α 107 i ∧ LH c V B N n α 107 i ≤ 1000 := fun i hi => by
    rw [LH_at _ _ _ _ _ _ hi]; have := hds_lt (c := c) hW hi; have := hW.1; omega
  have h := qX8_fedBy σ (LH c V B N n α) (hR.lh _) hW hU (hM.lh _) hb set hs
  rw [fedR_hd (on2 := fun r => α 96 (1 + r)) (vo2 := fun r => α 96 (7 + r)) (sk2 := fun r => α 96 (13 + r)) (hd2 := fun i => (hds c V B N n i : Int)) (fun i hi => LH_at _ _ _ _ _ _ hi) (fun r hr => ⟨by rw [LH_96]; exact (hM.2.2 r hr).1, by rw [LH_96], by rw [LH_96], by rw [LH_96]⟩)] at h
  exact h
theorem LH_fdr {σ α : St} {n : Nat} {V B N : Nat → Int} (hR : RV σ α n V B N) (hW : WF n V B N) {a b c : Int} (hU : RU σ a b c) {m : Nat} (hM : RR α n m) (t : Nat) (ht : t < n) (set : Int) (hs : 0 ≤ set ∧ set ≤ 2147483647) : CF 2 mX8_feeder [vR 95, vI (t : Int), vI set] σ (LH c V B N n α) (some (vI (fdrR a b V B (fun i => (hds c V B N n i : Int)) (fun r => α 96 (1 + r)) (fun r => α 96 (7 + r)) (fun r => α 96 (13 + r)) m set t))) σ (LH c V B N n α) := by
  have hb : ∀ i, i < n → 0 ≤ LH c V B N n α 107 i ∧ LH c V B N n α 107 i ≤ 1000 := fun i hi => by
    rw [LH_at _ _ _ _ _ _ hi]; have := hds_lt (c := c) hW hi; have := hW.1; omega
  have h := qX8_feeder σ (LH c V B N n α) (hR.lh _) hW hU (hM.lh _) hb t ht set hs
  rw [fdrR_hd (on2 := fun r => α 96 (1 + r)) (vo2 := fun r => α 96 (7 + r)) (sk2 := fun r => α 96 (13 + r)) (hd2 := fun i => (hds c V B N n i : Int)) (fun i hi => LH_at _ _ _ _ _ _ hi) (fun r hr => ⟨by rw [LH_96]; exact (hM.2.2 r hr).1, by rw [LH_96], by rw [LH_96], by rw [LH_96]⟩) ht] at h
  exact h
