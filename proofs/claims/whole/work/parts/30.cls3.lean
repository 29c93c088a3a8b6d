set_option maxHeartbeats 4000000 in
set_option maxRecDepth 100000 in
theorem qX3_fewestRisers (σ α : St) {n : Nat} {V B N : Nat → Int} {c : Int} (hS : KS σ α n V B N c) (hW : WF n V B N) {a b : Int} (hU : RP σ a b) {m : Nat} (hM : RK σ α n m) (F : Nat → Nat) (hF : ∀ s : Nat, fedR a b V B N n (fun i => (hds c V B N n i : Int)) (α 24) (α 25) (α 26) m (s : Int) = F s) : CF 3 mX3_fewestRisers [vR 71] σ α (some (vI ((fewU F (2 ^ m - 1) (onesU (F (2 ^ m - 1) : Nat) 10) (2 ^ m - 1) : Nat) : Int))) (σ) (α) := by
  have h10 := hW.1
  have hm6 := hM.2.1
  have hp := pw6 hm6
  have hFl : ∀ s, F s < 1024 := fun s => by rw [← hF]; exact pow10 h10 (msk_lt _ n)
  refine CG.of [some (vR 71), none, none, none, none] (by decide) (by simp [lvA]) rfl ?_
  refine v_aload_n iX3_fewestRisers_0 rfl ?_
  refine c_V1 (Mc := mX3_allRisers) iX3_fewestRisers_1 lX3_124 kX3_allRisers (qX3_allRisers σ α hM) (by decide) rfl rfl rfl rfl (Nat.le_of_ble_eq_true rfl) ?_
  try simp only [Int.toNat_natCast]
  rw [show ((2 ^ m : Nat) - 1 : Int) = ((2 ^ m - 1 : Nat) : Int) by omega]
  refine v_is1 iX3_fewestRisers_4 ⟨rfl, rfl⟩ ?_
  refine v_aload_n iX3_fewestRisers_5 rfl ?_
  refine v_iload_n iX3_fewestRisers_6 rfl ?_
  refine c_V1 (Mc := mX3_fedTops) iX3_fewestRisers_7 lX3_128 kX3_fedTops (qX3_fedTops σ α hS hW hU hM _ (by omega)) (by decide) rfl rfl rfl rfl (Nat.le_of_ble_eq_true rfl) ?_
  try simp only [Int.toNat_natCast]
  rw [hF]
  refine c_S1 (Mc := mJ6_bitCount_0f7a4) iX3_fewestRisers_10 lX3_131 kJ6_bitCount_0f7a4 (qJ6_bitCount_0f7a4 σ α _ (hFl _)) (by decide) rfl rfl (Nat.le_of_ble_eq_true rfl) ?_
  try simp only [Int.toNat_natCast]
  refine v_is2 iX3_fewestRisers_13 ⟨rfl, rfl⟩ ?_
  refine v_iload_n iX3_fewestRisers_14 rfl ?_
  refine v_is3 iX3_fewestRisers_15 ⟨rfl, rfl⟩ ?_
  refine v_iconst iX3_fewestRisers_16 ?_
  refine v_is4 iX3_fewestRisers_17 ⟨rfl, rfl⟩ ?_
  refine ind_up (P := fun k => VV 3 mX3_fewestRisers [vR 71] (fun r' s' a' => r' = some (vI ((fewU F (2 ^ m - 1) (onesU (F (2 ^ m - 1) : Nat) 10) (2 ^ m - 1) : Nat) : Int)) ∧ s' = σ ∧ a' = α) σ α 19 [some (vR 71), some (vI ((2 ^ m - 1 : Nat) : Int)), some (vI (onesU (F (2 ^ m - 1) : Nat) 10)), some (vI ((fewU F (2 ^ m - 1) (onesU (F (2 ^ m - 1) : Nat) 10) k : Nat) : Int)), some (vI (k : Int))] []) (2 ^ m - 1) ?_ 0 (by omega)
  intro k hk ih
  refine v_iload iX3_fewestRisers_19 rfl ?_
  refine v_iload_n iX3_fewestRisers_21 rfl ?_
  refine v_icmp_ge (tgt := 59) iX3_fewestRisers_22 (by decide) (by omega) (fun h22 => ?_) (fun h22 => ?_)
  · have hkn : 2 ^ m - 1 = k := by omega
    subst hkn
    refine v_iload_n iX3_fewestRisers_59 rfl ?_
    exact r_i iX3_fewestRisers_60 rfl (⟨cf_i (by rfl), rfl, rfl⟩)
  · have hr := fewU_r F (2 ^ m - 1) (onesU (F (2 ^ m - 1) : Nat) 10) k
    have o1 := onesU_r (k : Int) 10
    have o2 := onesU_r ((fewU F (2 ^ m - 1) (onesU (F (2 ^ m - 1) : Nat) 10) k : Nat) : Int) 10
    have o3 := onesU_r ((F k : Nat) : Int) 10
    have o4 := onesU_r ((F (2 ^ m - 1) : Nat) : Int) 10
    refine v_iload iX3_fewestRisers_25 rfl ?_
    refine c_S1 (Mc := mJ6_bitCount_0f7a4) iX3_fewestRisers_27 lX3_131 kJ6_bitCount_0f7a4 (qJ6_bitCount_0f7a4 σ α k (by omega)) (by decide) rfl rfl (Nat.le_of_ble_eq_true rfl) ?_
    try simp only [Int.toNat_natCast]
    refine v_iload_n iX3_fewestRisers_30 rfl ?_
    refine c_S1 (Mc := mJ6_bitCount_0f7a4) iX3_fewestRisers_31 lX3_131 kJ6_bitCount_0f7a4 (qJ6_bitCount_0f7a4 σ α _ (by omega)) (by decide) rfl rfl (Nat.le_of_ble_eq_true rfl) ?_
    try simp only [Int.toNat_natCast]
    refine v_icmp_ge (tgt := 53) iX3_fewestRisers_34 (by decide) (by omega) (fun h34 => ?_) (fun h34 => ?_)
    · refine v_in4 iX3_fewestRisers_53 ⟨rfl, rfl⟩ ?_
      refine v_goto (tgt := 19) iX3_fewestRisers_56 (by decide) ?_
      refine (ih (by omega)).as rfl rfl ?_ rfl
      first
        | (have e1 : fewU F (2 ^ m - 1) (onesU (F (2 ^ m - 1) : Nat) 10) (k + 1) = k := by rw [fewU, if_pos ⟨by omega, h47⟩]
           rw [e1]; rfl)
        | (have e1 : fewU F (2 ^ m - 1) (onesU (F (2 ^ m - 1) : Nat) 10) (k + 1) = fewU F (2 ^ m - 1) (onesU (F (2 ^ m - 1) : Nat) 10) k := by rw [fewU, if_neg (fun q => absurd q.1 (by omega))]
           rw [e1]; rfl)
        | (have e1 : fewU F (2 ^ m - 1) (onesU (F (2 ^ m - 1) : Nat) 10) (k + 1) = fewU F (2 ^ m - 1) (onesU (F (2 ^ m - 1) : Nat) 10) k := by rw [fewU, if_neg (fun q => h47 q.2)]
           rw [e1]; rfl)
    · refine v_aload_n iX3_fewestRisers_37 rfl ?_
      refine v_iload iX3_fewestRisers_38 rfl ?_
      refine c_V1 (Mc := mX3_fedTops) iX3_fewestRisers_40 lX3_128 kX3_fedTops (qX3_fedTops σ α hS hW hU hM k (by omega)) (by decide) rfl rfl rfl rfl (Nat.le_of_ble_eq_true rfl) ?_
      try simp only [Int.toNat_natCast]
      rw [hF]
      refine c_S1 (Mc := mJ6_bitCount_0f7a4) iX3_fewestRisers_43 lX3_131 kJ6_bitCount_0f7a4 (qJ6_bitCount_0f7a4 σ α _ (hFl _)) (by decide) rfl rfl (Nat.le_of_ble_eq_true rfl) ?_
      try simp only [Int.toNat_natCast]
      refine v_iload_n iX3_fewestRisers_46 rfl ?_
      refine v_icmp_ne (tgt := 53) iX3_fewestRisers_47 (by decide) (by omega) (fun h47 => ?_) (fun h47 => ?_)
      · refine v_in4 iX3_fewestRisers_53 ⟨rfl, rfl⟩ ?_
        refine v_goto (tgt := 19) iX3_fewestRisers_56 (by decide) ?_
        refine (ih (by omega)).as rfl rfl ?_ rfl
        first
          | (have e1 : fewU F (2 ^ m - 1) (onesU (F (2 ^ m - 1) : Nat) 10) (k + 1) = k := by rw [fewU, if_pos ⟨by omega, h47⟩]
             rw [e1]; rfl)
          | (have e1 : fewU F (2 ^ m - 1) (onesU (F (2 ^ m - 1) : Nat) 10) (k + 1) = fewU F (2 ^ m - 1) (onesU (F (2 ^ m - 1) : Nat) 10) k := by rw [fewU, if_neg (fun q => absurd q.1 (by omega))]
             rw [e1]; rfl)
          | (have e1 : fewU F (2 ^ m - 1) (onesU (F (2 ^ m - 1) : Nat) 10) (k + 1) = fewU F (2 ^ m - 1) (onesU (F (2 ^ m - 1) : Nat) 10) k := by rw [fewU, if_neg (fun q => h47 q.2)]
             rw [e1]; rfl)
      · refine v_iload iX3_fewestRisers_50 rfl ?_
        refine v_is3 iX3_fewestRisers_52 ⟨rfl, rfl⟩ ?_
        refine v_in4 iX3_fewestRisers_53 ⟨rfl, rfl⟩ ?_
        refine v_goto (tgt := 19) iX3_fewestRisers_56 (by decide) ?_
        refine (ih (by omega)).as rfl rfl ?_ rfl
        first
          | (have e1 : fewU F (2 ^ m - 1) (onesU (F (2 ^ m - 1) : Nat) 10) (k + 1) = k := by rw [fewU, if_pos ⟨by omega, h47⟩]
             rw [e1]; rfl)
          | (have e1 : fewU F (2 ^ m - 1) (onesU (F (2 ^ m - 1) : Nat) 10) (k + 1) = fewU F (2 ^ m - 1) (onesU (F (2 ^ m - 1) : Nat) 10) k := by rw [fewU, if_neg (fun q => absurd q.1 (by omega))]
             rw [e1]; rfl)
          | (have e1 : fewU F (2 ^ m - 1) (onesU (F (2 ^ m - 1) : Nat) 10) (k + 1) = fewU F (2 ^ m - 1) (onesU (F (2 ^ m - 1) : Nat) 10) k := by rw [fewU, if_neg (fun q => h47 q.2)]
             rw [e1]; rfl)

set_option maxHeartbeats 4000000 in
set_option maxRecDepth 100000 in
theorem qX3_leastVolume (σ α : St) {n : Nat} {V B N : Nat → Int} (hK : KV σ α n V B N) (hW : WF n V B N) {a b : Int} (hU : RP σ a b) (t sk : Int) (ht : 0 ≤ t ∧ t < n) (hsk : 1 ≤ sk ∧ sk ≤ 99) : CF 1 mX3_leastVolume [vR 71, vI t, vI sk] σ α (some (vI (fst1 (fun v => outl a b V B v sk t.toNat) 999 1))) (σ) (α) := by
  have h10 := hW.1
  refine CG.of [some (vR 71), some (vI t), some (vI sk), none] (by decide) (by simp [lvA]) rfl ?_
  refine v_iconst iX3_leastVolume_0 ?_
  refine v_is3 iX3_leastVolume_1 ⟨rfl, rfl⟩ ?_
  have key := ind_up (P := fun k => 1 ≤ k → fst1 (fun v => outl a b V B v sk t.toNat) 999 1 = fst1 (fun v => outl a b V B v sk t.toNat) (1000 - k) k → VV 1 mX3_leastVolume [vR 71, vI t, vI sk] (fun r' s' a' => r' = some (vI (fst1 (fun v => outl a b V B v sk t.toNat) 999 1)) ∧ s' = σ ∧ a' = α) σ α 2 [some (vR 71), some (vI t), some (vI sk), some (vI (k : Int))] []) 1000 ?_ 1 (by omega)
  · exact key (by omega) rfl
  intro k hk ih hk1 e1
  refine v_iload_n iX3_leastVolume_2 rfl ?_
  refine v_sipush iX3_leastVolume_3 (by decide) ?_
  refine v_icmp_gt (tgt := 27) iX3_leastVolume_6 (by decide) (by omega) (fun h6 => ?_) (fun h6 => ?_)
  · rw [show 1000 - k = 0 by omega] at e1
    refine v_iconst iX3_leastVolume_27 ?_
    exact r_i iX3_leastVolume_28 rfl (⟨cf_i (by rw [e1]; rfl), rfl, rfl⟩)
  · rw [show 1000 - k = (1000 - (k + 1)) + 1 by omega] at e1
    refine v_aload_n iX3_leastVolume_9 rfl ?_
    refine v_iload_n iX3_leastVolume_10 rfl ?_
    refine v_iload_n iX3_leastVolume_11 rfl ?_
    refine v_iload_n iX3_leastVolume_12 rfl ?_
    refine c_V1 (Mc := mX3_outlasts) iX3_leastVolume_13 lX3_117 kX3_outlasts (qX3_outlasts σ α hK hW hU k sk t (by omega) (by omega) (by omega)) (by decide) rfl rfl rfl rfl (Nat.le_of_ble_eq_true rfl) ?_
    try simp only [Int.toNat_natCast]
    refine v_bif_eq (tgt := 21) iX3_leastVolume_16 (by decide) (fun h16 => ?_) (fun h16 => ?_)
    · try simp only [Int.toNat_natCast] at h16
      refine v_in3 iX3_leastVolume_21 ⟨rfl, rfl⟩ ?_
      refine v_goto (tgt := 2) iX3_leastVolume_24 (by decide) ?_
      exact (ih (by omega) (by omega) (by rw [e1]; exact fst1_n h16)).as rfl rfl rfl rfl
    · try simp only [Int.toNat_natCast] at h16
      refine v_iload_n iX3_leastVolume_19 rfl ?_
      exact r_i iX3_leastVolume_20 rfl (⟨cf_i (by rw [e1]; exact (fst1_y (p := fun v => outl a b V B v sk t.toNat) h16).symm), rfl, rfl⟩)

set_option maxHeartbeats 4000000 in
set_option maxRecDepth 100000 in
theorem qX3_rank (σ α : St) {n : Nat} {V B N : Nat → Int} (hK : KV σ α n V B N) (hW : WF n V B N) (s : Int) (hs : 0 ≤ s ∧ s < n) : CF 1 mX3_rank [vR 71, vI s] σ α (some (vI (rkU V B s.toNat n))) (σ) (α) := by
  have h10 := hW.1
  refine CG.of [some (vR 71), some (vI s), none, none] (by decide) (by simp [lvA]) rfl ?_
  refine v_iconst iX3_rank_0 ?_
  refine v_is2 iX3_rank_1 ⟨rfl, rfl⟩ ?_
  refine v_iconst iX3_rank_2 ?_
  refine v_is3 iX3_rank_3 ⟨rfl, rfl⟩ ?_
  refine ind_up (P := fun k => VV 1 mX3_rank [vR 71, vI s] (fun r' s' a' => r' = some (vI (rkU V B s.toNat n)) ∧ s' = σ ∧ a' = α) σ α 4 [some (vR 71), some (vI s), some (vI (rkU V B s.toNat k)), some (vI (k : Int))] []) n ?_ 0 (by omega)
  intro k hk ih
  refine v_iload_n iX3_rank_4 rfl ?_
  refine v_aload_n iX3_rank_5 rfl ?_
  refine v_getI iX3_rank_6 fX3_44 rfl rfl (by exact hK.1) ?_
  refine v_icmp_ge (tgt := 35) iX3_rank_9 (by decide) (by omega) (fun h9 => ?_) (fun h9 => ?_)
  · have hkn : n = k := by omega
    subst hkn
    refine v_iload_n iX3_rank_35 rfl ?_
    exact r_i iX3_rank_36 rfl (⟨cf_i (by rfl), rfl, rfl⟩)
  · refine v_iload_n iX3_rank_12 rfl ?_
    refine v_iload_n iX3_rank_13 rfl ?_
    refine v_icmp_eq (tgt := 29) iX3_rank_14 (by decide) (by omega) (fun h14 => ?_) (fun h14 => ?_)
    · refine v_in3 iX3_rank_29 ⟨rfl, rfl⟩ ?_
      refine v_goto (tgt := 4) iX3_rank_32 (by decide) ?_
      refine (ih (by omega)).as rfl rfl ?_ rfl
      have e0 : decide (k ≠ s.toNat) = decide (¬ (k : Int) = s) := by simp; omega
      first
        | (have e3 : decide (k ≠ s.toNat) = false := by simp; omega
           rw [rkU, e3]; simp; done)
        | (simp only [rkU, e0, h14, h23, not_true_eq_false, not_false_eq_true, decide_true, decide_false, Bool.true_and, Bool.false_and, Bool.false_eq_true, if_true, if_false, Int.add_zero]; rfl)
        | (simp only [rkU, e0, h14, not_true_eq_false, not_false_eq_true, decide_true, decide_false, Bool.true_and, Bool.false_and, Bool.false_eq_true, if_true, if_false, Int.add_zero]; rfl)
    · refine v_aload_n iX3_rank_17 rfl ?_
      refine v_iload_n iX3_rank_18 rfl ?_
      refine v_iload_n iX3_rank_19 rfl ?_
      refine c_V1 (Mc := mX3_isSooner) iX3_rank_20 lX3_78 kX3_isSooner (qX3_isSooner σ α hK hW k s (by omega) (by omega)) (by decide) rfl rfl rfl rfl (Nat.le_of_ble_eq_true rfl) ?_
      try simp only [Int.toNat_natCast]
      refine v_bif_eq (tgt := 29) iX3_rank_23 (by decide) (fun h23 => ?_) (fun h23 => ?_)
      · try simp only [Int.toNat_natCast] at h23
        refine v_in3 iX3_rank_29 ⟨rfl, rfl⟩ ?_
        refine v_goto (tgt := 4) iX3_rank_32 (by decide) ?_
        refine (ih (by omega)).as rfl rfl ?_ rfl
        have e0 : decide (k ≠ s.toNat) = decide (¬ (k : Int) = s) := by simp; omega
        first
          | (have e3 : decide (k ≠ s.toNat) = false := by simp; omega
             rw [rkU, e3]; simp; done)
          | (simp only [rkU, e0, h14, h23, not_true_eq_false, not_false_eq_true, decide_true, decide_false, Bool.true_and, Bool.false_and, Bool.false_eq_true, if_true, if_false, Int.add_zero]; rfl)
          | (simp only [rkU, e0, h14, not_true_eq_false, not_false_eq_true, decide_true, decide_false, Bool.true_and, Bool.false_and, Bool.false_eq_true, if_true, if_false, Int.add_zero]; rfl)
      · try simp only [Int.toNat_natCast] at h23
        refine v_in2 iX3_rank_26 ⟨rfl, rfl⟩ ?_
        refine v_in3 iX3_rank_29 ⟨rfl, rfl⟩ ?_
        refine v_goto (tgt := 4) iX3_rank_32 (by decide) ?_
        refine (ih (by omega)).as rfl rfl ?_ rfl
        have e0 : decide (k ≠ s.toNat) = decide (¬ (k : Int) = s) := by simp; omega
        first
          | (have e3 : decide (k ≠ s.toNat) = false := by simp; omega
             rw [rkU, e3]; simp; done)
          | (simp only [rkU, e0, h14, h23, not_true_eq_false, not_false_eq_true, decide_true, decide_false, Bool.true_and, Bool.false_and, Bool.false_eq_true, if_true, if_false, Int.add_zero]; rfl)
          | (simp only [rkU, e0, h14, not_true_eq_false, not_false_eq_true, decide_true, decide_false, Bool.true_and, Bool.false_and, Bool.false_eq_true, if_true, if_false, Int.add_zero]; rfl)

set_option maxHeartbeats 4000000 in
set_option maxRecDepth 100000 in
theorem qX3_atRank (σ α : St) {n : Nat} {V B N : Nat → Int} (hK : KV σ α n V B N) (hW : WF n V B N) (r : Int) (hr : InR r) : CF 2 mX3_atRank [vR 71, vI r] σ α (some (vI (fst1 (fun s => decide (rkU V B s n = r)) n 0))) (σ) (α) := by
  have h10 := hW.1
  refine CG.of [some (vR 71), some (vI r), none] (by decide) (by simp [lvA]) rfl ?_
  refine v_iconst iX3_atRank_0 ?_
  refine v_is2 iX3_atRank_1 ⟨rfl, rfl⟩ ?_
  have key := ind_up (P := fun k => fst1 (fun s => decide (rkU V B s n = r)) n 0 = fst1 (fun s => decide (rkU V B s n = r)) (n - k) k → VV 2 mX3_atRank [vR 71, vI r] (fun r' s' a' => r' = some (vI (fst1 (fun s => decide (rkU V B s n = r)) n 0)) ∧ s' = σ ∧ a' = α) σ α 2 [some (vR 71), some (vI r), some (vI (k : Int))] []) n ?_ 0 (by omega)
  · exact key rfl
  intro k hk ih e1
  refine v_iload_n iX3_atRank_2 rfl ?_
  refine v_aload_n iX3_atRank_3 rfl ?_
  refine v_getI iX3_atRank_4 fX3_44 rfl rfl (by exact hK.1) ?_
  refine v_icmp_ge (tgt := 27) iX3_atRank_7 (by decide) (by omega) (fun h7 => ?_) (fun h7 => ?_)
  · rw [show n - k = 0 by omega] at e1
    refine v_iconst iX3_atRank_27 ?_
    exact r_i iX3_atRank_28 rfl (⟨cf_i (by rw [e1]; rfl), rfl, rfl⟩)
  · rw [show n - k = (n - (k + 1)) + 1 by omega] at e1
    refine v_aload_n iX3_atRank_10 rfl ?_
    refine v_iload_n iX3_atRank_11 rfl ?_
    refine c_V1 (Mc := mX3_rank) iX3_atRank_12 lX3_136 kX3_rank (qX3_rank σ α hK hW k (by omega)) (by decide) rfl rfl rfl rfl (Nat.le_of_ble_eq_true rfl) ?_
    try simp only [Int.toNat_natCast]
    refine v_iload_n iX3_atRank_15 rfl ?_
    refine v_icmp_ne (tgt := 21) iX3_atRank_16 (by decide) (by have := rkU_r V B k n; exact ⟨⟨by omega, by omega⟩, hr⟩) (fun h16 => ?_) (fun h16 => ?_)
    · refine v_in2 iX3_atRank_21 ⟨rfl, rfl⟩ ?_
      refine v_goto (tgt := 2) iX3_atRank_24 (by decide) ?_
      exact (ih (by omega) (by rw [e1]; exact fst1_n (by simp [h16]))).as rfl rfl rfl rfl
    · refine v_iload_n iX3_atRank_19 rfl ?_
      exact r_i iX3_atRank_20 rfl (⟨cf_i (by rw [e1]; exact (fst1_y (p := (fun s => decide (rkU V B s n = r))) (by simp [h16])).symm), rfl, rfl⟩)

theorem chB_WF {n : Nat} {V B N K C : Nat → Int} (hW : WF n V B N) {i : Nat} (hi : i < n) {c : Int} (hc : 1 ≤ c ∧ c ≤ 9) (hK : (1 ≤ K i ∧ K i ≤ 99) ∧ (0 ≤ C i ∧ C i ≤ 9)) : WF n V (chB B K C i c) N := by
  refine ⟨hW.1, fun j hj => ?_⟩
  obtain ⟨h1, h2, h3, h4⟩ := hW.2 j hj
  refine ⟨h1, ?_, h3, h4⟩
  unfold chB uF
  by_cases hji : j = i
  · subst hji; rw [if_pos rfl]; split <;> omega
  · rw [if_neg hji]; exact h2
theorem tcU_r (V B N K C : Nat → Int) (n : Nat) (c : Int) (i : Nat) : 0 ≤ tcU V B N K C n c i ∧ tcU V B N K C n c i ≤ 10 := onesU_r _ 10

set_option maxHeartbeats 4000000 in
set_option maxRecDepth 100000 in
theorem qX3_topsIfChilled (σ α : St) {n : Nat} {V B N : Nat → Int} (hK : KV σ α n V B N) (hW : WF n V B N) {K C : Nat → Int} (hKC : ∀ i, i < n → α 5 i = K i ∧ α 23 i = C i ∧ (1 ≤ K i ∧ K i ≤ 99) ∧ (0 ≤ C i ∧ C i ≤ 9) ∧ B i = K i + 10 * C i) (c : Int) (hc : 1 ≤ c ∧ c ≤ 9) (s : Nat) (hs : s < n) : CF 3 mX3_topsIfChilled [vR 71, vI (s : Int), vI c] σ α (some (vI (tcU V B N K C n c s))) (σ) (α) := by
  have h10 := hW.1
  have hk := hKC s hs
  refine CG.of [some (vR 71), some (vI (s : Int)), some (vI c), none, none] (by decide) (by simp [lvA]) rfl ?_
  refine v_aload_n iX3_topsIfChilled_0 rfl ?_
  refine v_getR iX3_topsIfChilled_1 fX3_15 rfl rfl ?_
  refine v_iload_n iX3_topsIfChilled_4 rfl ?_
  refine v_iaload iX3_topsIfChilled_5 rfl (by omega) (by exact (hK.2 s hs).2.1) ?_
  refine v_is3 iX3_topsIfChilled_6 ⟨rfl, rfl⟩ ?_
  refine v_aload_n iX3_topsIfChilled_7 rfl ?_
  refine v_getR iX3_topsIfChilled_8 fX3_15 rfl rfl ?_
  refine v_iload_n iX3_topsIfChilled_11 rfl ?_
  refine v_aload_n iX3_topsIfChilled_12 rfl ?_
  refine v_iload_n iX3_topsIfChilled_13 rfl ?_
  refine v_aload_n iX3_topsIfChilled_14 rfl ?_
  refine v_getR iX3_topsIfChilled_15 fX3_34 rfl rfl ?_
  refine v_getR iX3_topsIfChilled_18 fX3_48 rfl rfl ?_
  refine v_iload_n iX3_topsIfChilled_21 rfl ?_
  refine v_iaload iX3_topsIfChilled_22 rfl (by omega) (by exact hk.2.1) ?_
  refine v_iload_n iX3_topsIfChilled_23 rfl ?_
  refine v_iadd iX3_topsIfChilled_24 ?_
  refine v_bipush iX3_topsIfChilled_25 (by decide) ?_
  refine v_min iX3_topsIfChilled_27 (gw_t 650 (by decide +kernel) rfl) (by decide) (Nat.le_of_ble_eq_true rfl) (by omega) ?_
  refine c_V1 (Mc := mX3_belowWith) iX3_topsIfChilled_30 lX3_53 kX3_belowWith (qX3_belowWith σ α s _ (by omega)) (by decide) rfl rfl rfl rfl (Nat.le_of_ble_eq_true rfl) ?_
  try simp only [Int.toNat_natCast]
  rw [hk.1]
  refine v_iastore iX3_topsIfChilled_33 rfl (by omega) ?_
  simp only [Int.toNat_natCast]
  have hK2 : KV σ (uA α 73 (uF (α 73) s (K s + 10 * (if 9 < C s + c then 9 else C s + c)))) n V (chB B K C s c) N := by
    refine ⟨hK.1, fun i hi => ⟨(hK.2 i hi).1, ?_, (hK.2 i hi).2.2⟩⟩
    have := (hK.2 i hi).2.1
    by_cases his : i = s
    · subst his; simp [uA, uF, chB]
    · simp [uA, uF, chB, his, this]
  refine v_aload_n iX3_topsIfChilled_34 rfl ?_
  refine c_V1 (Mc := mX3_tops) iX3_topsIfChilled_35 lX3_144 kX3_tops (qX3_tops σ _ hK2 (chB_WF hW hs hc ⟨hk.2.2.1, hk.2.2.2.1⟩)) (by decide) rfl rfl rfl rfl (Nat.le_of_ble_eq_true rfl) ?_
  try simp only [Int.toNat_natCast]
  refine c_S1 (Mc := mJ6_bitCount_0f7a4) iX3_topsIfChilled_38 lX3_131 kJ6_bitCount_0f7a4 (qJ6_bitCount_0f7a4 _ _ _ (pow10 h10 (msk_lt _ n))) (by decide) rfl rfl (Nat.le_of_ble_eq_true rfl) ?_
  try simp only [Int.toNat_natCast]
  refine v_is4 iX3_topsIfChilled_41 ⟨rfl, rfl⟩ ?_
  refine v_aload_n iX3_topsIfChilled_43 rfl ?_
  refine v_getR iX3_topsIfChilled_44 fX3_15 rfl rfl ?_
  refine v_iload_n iX3_topsIfChilled_47 rfl ?_
  refine v_iload_n iX3_topsIfChilled_48 rfl ?_
  refine v_iastore iX3_topsIfChilled_49 rfl (by omega) ?_
  refine v_iload iX3_topsIfChilled_50 rfl ?_
  exact r_i iX3_topsIfChilled_52 rfl (⟨cf_i rfl, rfl, by rw [uA_eq, uA_uA, Int.toNat_natCast, uF_uF, ← (hK.2 s hs).2.1, uF_id, uA_id]⟩)

set_option maxHeartbeats 4000000 in
set_option maxRecDepth 100000 in
theorem qX3_bestChilled (σ α : St) {n : Nat} {V B N : Nat → Int} (hK : KV σ α n V B N) (hW : WF n V B N) {K C : Nat → Int} (hKC : ∀ i, i < n → α 5 i = K i ∧ α 23 i = C i ∧ (1 ≤ K i ∧ K i ≤ 99) ∧ (0 ≤ C i ∧ C i ≤ 9) ∧ B i = K i + 10 * C i) (c : Int) (hc : 1 ≤ c ∧ c ≤ 9) : CF 4 mX3_bestChilled [vR 71, vI c] σ α (some (vI (bstK (tcU V B N K C n c) n).1)) (σ) (α) := by
  have h10 := hW.1
  refine CG.of [some (vR 71), some (vI c), none, none, none, none] (by decide) (by simp [lvA]) rfl ?_
  refine v_iconst iX3_bestChilled_0 ?_
  refine v_is2 iX3_bestChilled_1 ⟨rfl, rfl⟩ ?_
  refine v_bipush iX3_bestChilled_2 (by decide) ?_
  refine v_is3 iX3_bestChilled_4 ⟨rfl, rfl⟩ ?_
  refine v_iconst iX3_bestChilled_5 ?_
  refine v_is4 iX3_bestChilled_6 ⟨rfl, rfl⟩ ?_
  refine ind_up (P := fun k => VV 4 mX3_bestChilled [vR 71, vI c] (fun r' s' a' => r' = some (vI (bstK (tcU V B N K C n c) n).1) ∧ s' = σ ∧ a' = α) σ α 8 [some (vR 71), some (vI c), some (vI (bstK (tcU V B N K C n c) k).1), some (vI (bstK (tcU V B N K C n c) k).2), some (vI (k : Int)), none] []) n ?_ 0 (by omega)
  intro k hk ih
  refine v_iload iX3_bestChilled_8 rfl ?_
  refine v_aload_n iX3_bestChilled_10 rfl ?_
  refine v_getI iX3_bestChilled_11 fX3_44 rfl rfl (by exact hK.1) ?_
  refine v_icmp_ge (tgt := 44) iX3_bestChilled_14 (by decide) (by omega) (fun h14 => ?_) (fun h14 => ?_)
  · have hkn : n = k := by omega
    subst hkn
    refine v_iload_n iX3_bestChilled_44 rfl ?_
    exact r_i iX3_bestChilled_45 rfl (⟨cf_i (by rfl), rfl, rfl⟩)
  · have hb := bstK_r (tcU V B N K C n c) (tcU_r V B N K C n c) k
    have ht := tcU_r V B N K C n c k
    refine v_aload_n iX3_bestChilled_17 rfl ?_
    refine v_iload iX3_bestChilled_18 rfl ?_
    refine v_iload_n iX3_bestChilled_20 rfl ?_
    refine c_V1 (Mc := mX3_topsIfChilled) iX3_bestChilled_21 lX3_147 kX3_topsIfChilled (qX3_topsIfChilled σ α hK hW hKC c hc k (by omega)) (by decide) rfl rfl rfl rfl (Nat.le_of_ble_eq_true rfl) ?_
    try simp only [Int.toNat_natCast]
    refine v_is5 iX3_bestChilled_24 ⟨rfl, rfl⟩ ?_
    refine v_iload iX3_bestChilled_26 rfl ?_
    refine v_iload_n iX3_bestChilled_28 rfl ?_
    refine v_icmp_ge (tgt := 38) iX3_bestChilled_29 (by decide) (by omega) (fun h29 => ?_) (fun h29 => ?_)
    · refine v_in4 iX3_bestChilled_38 ⟨rfl, rfl⟩ ?_
      refine v_goto (tgt := 8) iX3_bestChilled_41 (by decide) ?_
      refine (ih (by omega)).asw rfl rfl ⟨rfl, rfl, ?_, ?_, rfl, trivial⟩ rfl
      · first
          | (rw [bstK, if_pos (by omega)])
          | (rw [bstK, if_neg (by omega)])
      · first
          | (rw [bstK, if_pos (by omega)])
          | (rw [bstK, if_neg (by omega)])
    · refine v_iload iX3_bestChilled_32 rfl ?_
      refine v_is3 iX3_bestChilled_34 ⟨rfl, rfl⟩ ?_
      refine v_iload iX3_bestChilled_35 rfl ?_
      refine v_is2 iX3_bestChilled_37 ⟨rfl, rfl⟩ ?_
      refine v_in4 iX3_bestChilled_38 ⟨rfl, rfl⟩ ?_
      refine v_goto (tgt := 8) iX3_bestChilled_41 (by decide) ?_
      refine (ih (by omega)).asw rfl rfl ⟨rfl, rfl, ?_, ?_, rfl, trivial⟩ rfl
      · first
          | (rw [bstK, if_pos (by omega)])
          | (rw [bstK, if_neg (by omega)])
      · first
          | (rw [bstK, if_pos (by omega)])
          | (rw [bstK, if_neg (by omega)])

set_option maxHeartbeats 4000000 in
set_option maxRecDepth 100000 in
theorem qX3_commonPart (σ α : St) {n : Nat} {V B N : Nat → Int} (hK : KV σ α n V B N) (hW : WF n V B N) (s : Int) (hs : 0 ≤ s ∧ s < n) : CF 0 mX3_commonPart [vR 71, vI s] σ α (some (vI (Int.gcd (V s.toNat) (B s.toNat) : Int))) (σ) (α) := by
  have h10 := hW.1
  have hws := hW.2 s.toNat (by omega)
  refine CG.of [some (vR 71), some (vI s), none] (by decide) (by simp [lvA]) rfl ?_
  refine v_aload_n iX3_commonPart_0 rfl ?_
  refine v_getR iX3_commonPart_1 fX3_9 rfl rfl ?_
  refine v_iload_n iX3_commonPart_4 rfl ?_
  refine v_iaload iX3_commonPart_5 rfl (by omega) (by exact (hK.2 s.toNat (by omega)).1) ?_
  refine v_is2 iX3_commonPart_6 ⟨rfl, rfl⟩ ?_
  have key := ind_me (S := Nat) (P := fun k => k ≤ 99 → (Int.gcd (V s.toNat) (B s.toNat) : Int) ≤ (k : Int) → VV 0 mX3_commonPart [vR 71, vI s] (fun r' s' a' => r' = some (vI (Int.gcd (V s.toNat) (B s.toNat) : Int)) ∧ s' = σ ∧ a' = α) σ α 7 [some (vR 71), some (vI s), some (vI (k : Int))] []) (fun k => k) ?_
  · exact (key (V s.toNat).toNat (by omega) (by have := gcd_le (x := V s.toNat) (y := B s.toNat) (by omega); omega)).as rfl rfl (by simp; omega) rfl
  intro k ih hk99 hg
  refine v_iload_n iX3_commonPart_7 rfl ?_
  refine v_iconst iX3_commonPart_8 ?_
  refine v_icmp_le (tgt := 42) iX3_commonPart_9 (by decide) (by omega) (fun h9 => ?_) (fun h9 => ?_)
  · refine v_iconst iX3_commonPart_42 ?_
    exact r_i iX3_commonPart_43 rfl (⟨cf_i (by have := gcd_le (x := V s.toNat) (y := B s.toNat) (by omega); omega), rfl, rfl⟩)
  · refine v_aload_n iX3_commonPart_12 rfl ?_
    refine v_getR iX3_commonPart_13 fX3_9 rfl rfl ?_
    refine v_iload_n iX3_commonPart_16 rfl ?_
    refine v_iaload iX3_commonPart_17 rfl (by omega) (by exact (hK.2 s.toNat (by omega)).1) ?_
    refine v_iload_n iX3_commonPart_18 rfl ?_
    refine v_irem iX3_commonPart_19 (by omega) (by omega) ?_
    refine v_if_ne (tgt := 36) iX3_commonPart_20 (by decide) (by have := Int.emod_nonneg (V s.toNat) (show ((k : Nat) : Int) ≠ 0 by omega); have := Int.emod_lt_of_pos (V s.toNat) (show (0 : Int) < (k : Nat) by omega); omega) (fun h20 => ?_) (fun h20 => ?_)
    · refine v_in2 iX3_commonPart_36 ⟨rfl, rfl⟩ ?_
      refine v_goto (tgt := 7) iX3_commonPart_39 (by decide) ?_
      obtain ⟨j, rfl⟩ : ∃ j, k = j + 1 := ⟨k - 1, by omega⟩
      exact (ih j (by omega) (by omega) (by
        have g0 : (Int.gcd (V s.toNat) (B s.toNat) : Int) ≠ ((j + 1 : Nat) : Int) := gcd_not (fun q => by first | exact h20 q.1 | exact h31 q.2)
        omega)).as rfl rfl (by simp; omega) rfl
    · refine v_aload_n iX3_commonPart_23 rfl ?_
      refine v_getR iX3_commonPart_24 fX3_15 rfl rfl ?_
      refine v_iload_n iX3_commonPart_27 rfl ?_
      refine v_iaload iX3_commonPart_28 rfl (by omega) (by exact (hK.2 s.toNat (by omega)).2.1) ?_
      refine v_iload_n iX3_commonPart_29 rfl ?_
      refine v_irem iX3_commonPart_30 (by omega) (by omega) ?_
      refine v_if_ne (tgt := 36) iX3_commonPart_31 (by decide) (by have := Int.emod_nonneg (B s.toNat) (show ((k : Nat) : Int) ≠ 0 by omega); have := Int.emod_lt_of_pos (B s.toNat) (show (0 : Int) < (k : Nat) by omega); omega) (fun h31 => ?_) (fun h31 => ?_)
      · refine v_in2 iX3_commonPart_36 ⟨rfl, rfl⟩ ?_
        refine v_goto (tgt := 7) iX3_commonPart_39 (by decide) ?_
        obtain ⟨j, rfl⟩ : ∃ j, k = j + 1 := ⟨k - 1, by omega⟩
        exact (ih j (by omega) (by omega) (by
          have g0 : (Int.gcd (V s.toNat) (B s.toNat) : Int) ≠ ((j + 1 : Nat) : Int) := gcd_not (fun q => by first | exact h20 q.1 | exact h31 q.2)
          omega)).as rfl rfl (by simp; omega) rfl
      · refine v_iload_n iX3_commonPart_34 rfl ?_
        exact r_i iX3_commonPart_35 rfl (⟨cf_i (gcd_of (by omega) (by omega) (by omega) h20 h31 hg).symm, rfl, rfl⟩)
