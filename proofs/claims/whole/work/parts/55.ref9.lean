set_option maxHeartbeats 4000000 in
set_option maxRecDepth 100000 in
theorem qX8_count (σ α : St) {n : Nat} {V B N : Nat → Int} (hR : RV σ α n V B N) (hW : WF n V B N) {a b c : Int} (hU : RU σ a b c) {m : Nat} (hM : RR α n m) (hS : ∀ t, t < 3 → α 102 t ≤ 1000) (hS0 : ∀ t, t < 3 → -1 ≤ α 102 t) (f : Int) (hf : InR f) : CG 11 mX8_count [vR 95, vI f] σ α (fun r' s' a' => r' = some (vI (cntU n (sumO (α 99) n / 2) m ((msk (topR V B N n) n : Nat) : Int) ((msk (fun i => decide (dIn c V B N n i ≠ -1)) n : Nat) : Int) ((fdS a b c V B N n (α 96) m (2 ^ m - 1 : Nat) : Nat) : Int) a b c (atU (α 102) 3) (σ 95 8) (σ 95 11) f)) ∧ Sc σ s' ∧ Hd α a') := by
  have hn10 := hW.1
  have hN : ∀ i, i < n → 0 ≤ α 99 i ∧ α 99 i < 1024 := fun i hi => by rw [(hR.2 i hi).2.2]; exact (hW.2 i hi).2.2.1
  have hfl := pow10 hn10 (msk_lt (fun i => topR V B N n i && decide (fdrR a b V B (fun i => (hds c V B N n i : Int)) (fun r => α 96 (1 + r)) (fun r => α 96 (7 + r)) (fun r => α 96 (13 + r)) m (2 ^ m - 1 : Nat) i ≠ -1)) n)
  replace hfl : fdS a b c V B N n (α 96) m (2 ^ m - 1 : Nat) < 1024 := hfl
  have mt := pow10 hn10 (msk_lt (topR V B N n) n)
  refine CG.of [some (vR 95), some (vI f)] (by decide) (by simp [lvA]) rfl ?_
  refine v_iload_n iX8_count_0 rfl ?_
  rcases (show f = 0 ∨ f = 1 ∨ f = 2 ∨ f = 3 ∨ f = 4 ∨ f = 5 ∨ f = 6 ∨ f = 7 ∨ f = 8 ∨ f = 9 ∨ f = 10 ∨ f = 11 ∨ f = 12 ∨ (f < 0 ∨ 12 < f) by omega) with rfl | rfl | rfl | rfl | rfl | rfl | rfl | rfl | rfl | rfl | rfl | rfl | rfl | hsw
  · refine v_tabIn (tgt := 68) iX8_count_1 (by decide) (by decide) rfl (by decide) ?_
    refine v_aload_n iX8_count_68 rfl ?_
    refine v_getI iX8_count_69 fX8_57 rfl rfl (by exact hR.1) ?_
    exact r_i iX8_count_72 rfl (⟨rfl, Sc.rf σ, Hd.rf α⟩)
  · refine v_tabIn (tgt := 73) iX8_count_1 (by decide) (by decide) rfl (by decide) ?_
    refine v_aload_n iX8_count_73 rfl ?_
    refine c_V1 (Mc := mX8_joints) iX8_count_74 lX8_241 kX8_joints (qX8_joints σ α hR.1 hn10 hN) (by decide) rfl rfl rfl rfl (Nat.le_of_ble_eq_true rfl) ?_
    try simp only [Int.toNat_natCast]
    exact r_i iX8_count_77 rfl (⟨rfl, Sc.rf σ, Hd.rf α⟩)
  · refine v_tabIn (tgt := 78) iX8_count_1 (by decide) (by decide) rfl (by decide) ?_
    refine v_aload_n iX8_count_78 rfl ?_
    refine v_getR iX8_count_79 fX8_7 rfl rfl ?_
    refine v_iconst iX8_count_82 ?_
    refine v_iaload iX8_count_83 rfl (by omega) (by exact hM.1) ?_
    exact r_i iX8_count_84 rfl (⟨rfl, Sc.rf σ, Hd.rf α⟩)
  · refine v_tabIn (tgt := 85) iX8_count_1 (by decide) (by decide) rfl (by decide) ?_
    refine v_aload_n iX8_count_85 rfl ?_
    refine c_V1 (Mc := mX8_tops) iX8_count_86 lX8_172 kX8_tops (qX8_tops σ α hR hW) (by decide) rfl rfl rfl rfl (Nat.le_of_ble_eq_true rfl) ?_
    try simp only [Int.toNat_natCast]
    exact r_i iX8_count_89 rfl (⟨rfl, Sc.rf σ, Hd.rf α⟩)
  · refine v_tabIn (tgt := 90) iX8_count_1 (by decide) (by decide) rfl (by decide) ?_
    refine v_aload_n iX8_count_90 rfl ?_
    refine c_VQ (Mc := mX8_drowned) iX8_count_91 lX8_244 kX8_drowned (qX8_drowned σ α hR hW hU) (by decide) rfl rfl rfl rfl (Nat.le_of_ble_eq_true rfl) ?_
    rintro σ1 a1 ⟨hs1, ha1⟩
    rw [ha1]
    try simp only [Int.toNat_natCast]
    exact r_i iX8_count_94 rfl (⟨rfl, hs1, Hd.rf α⟩)
  · refine v_tabIn (tgt := 95) iX8_count_1 (by decide) (by decide) rfl (by decide) ?_
    refine v_aload_n iX8_count_95 rfl ?_
    refine c_VQ (Mc := mX8_fed) iX8_count_96 lX8_215 kX8_fed (qX8_fed σ α hR hW hU hM) (by decide) rfl rfl rfl rfl (Nat.le_of_ble_eq_true rfl) ?_
    rintro σ1 a1 ⟨hs1, ha1⟩
    rw [ha1]
    try simp only [Int.toNat_natCast]
    exact r_i iX8_count_99 rfl (⟨rfl, hs1, Hd.lh c V B N n α⟩)
  · refine v_tabIn (tgt := 100) iX8_count_1 (by decide) (by decide) rfl (by decide) ?_
    refine v_aload_n iX8_count_100 rfl ?_
    refine c_VQ (Mc := mX8_fed) iX8_count_101 lX8_215 kX8_fed (qX8_fed σ α hR hW hU hM) (by decide) rfl rfl rfl rfl (Nat.le_of_ble_eq_true rfl) ?_
    rintro σ1 a1 ⟨hs1, ha1⟩
    rw [ha1]
    try simp only [Int.toNat_natCast]
    refine v_aload_n iX8_count_104 rfl ?_
    refine c_V1 (Mc := mX8_tops) iX8_count_105 lX8_172 kX8_tops (qX8_tops σ1 _ ((hR.sc hs1).lh _) hW) (by decide) rfl rfl rfl rfl (Nat.le_of_ble_eq_true rfl) ?_
    try simp only [Int.toNat_natCast]
    refine v_icmp_ne (tgt := 115) iX8_count_108 (by decide) (by omega) (fun h108 => ?_) (fun h108 => ?_)
    · refine v_iconst iX8_count_115 ?_
      exact r_i iX8_count_116 rfl (by first | exact ⟨cf_i (if_pos h108).symm, hs1, Hd.lh c V B N n α⟩ | exact ⟨cf_i (if_neg h108).symm, hs1, Hd.lh c V B N n α⟩)
    · refine v_iconst iX8_count_111 ?_
      refine v_goto (tgt := 116) iX8_count_112 (by decide) ?_
      exact r_i iX8_count_116 rfl (by first | exact ⟨cf_i (if_pos h108).symm, hs1, Hd.lh c V B N n α⟩ | exact ⟨cf_i (if_neg h108).symm, hs1, Hd.lh c V B N n α⟩)
  · refine v_tabIn (tgt := 117) iX8_count_1 (by decide) (by decide) rfl (by decide) ?_
    refine v_aload_n iX8_count_117 rfl ?_
    refine v_getI iX8_count_118 fX8_22 rfl rfl (by exact hU.1) ?_
    exact r_i iX8_count_121 rfl (⟨rfl, Sc.rf σ, Hd.rf α⟩)
  · refine v_tabIn (tgt := 122) iX8_count_1 (by decide) (by decide) rfl (by decide) ?_
    refine v_aload_n iX8_count_122 rfl ?_
    refine v_getI iX8_count_123 fX8_26 rfl rfl (by exact hU.2.1) ?_
    exact r_i iX8_count_126 rfl (⟨rfl, Sc.rf σ, Hd.rf α⟩)
  · refine v_tabIn (tgt := 127) iX8_count_1 (by decide) (by decide) rfl (by decide) ?_
    refine v_aload_n iX8_count_127 rfl ?_
    refine v_getI iX8_count_128 fX8_29 rfl rfl (by exact hU.2.2.1) ?_
    exact r_i iX8_count_131 rfl (⟨rfl, Sc.rf σ, Hd.rf α⟩)
  · refine v_tabIn (tgt := 132) iX8_count_1 (by decide) (by decide) rfl (by decide) ?_
    refine v_aload_n iX8_count_132 rfl ?_
    refine c_V1 (Mc := mX8_allThings) iX8_count_133 lX8_247 kX8_allThings (qX8_allThings σ α hS hS0) (by decide) rfl rfl rfl rfl (Nat.le_of_ble_eq_true rfl) ?_
    try simp only [Int.toNat_natCast]
    exact r_i iX8_count_136 rfl (⟨rfl, Sc.rf σ, Hd.rf α⟩)
  · refine v_tabIn (tgt := 137) iX8_count_1 (by decide) (by decide) rfl (by decide) ?_
    refine v_aload_n iX8_count_137 rfl ?_
    refine v_getI iX8_count_138 fX8_144 rfl rfl rfl ?_
    exact r_i iX8_count_141 rfl (⟨rfl, Sc.rf σ, Hd.rf α⟩)
  · refine v_tabIn (tgt := 142) iX8_count_1 (by decide) (by decide) rfl (by decide) ?_
    refine v_aload_n iX8_count_142 rfl ?_
    refine v_getI iX8_count_143 fX8_66 rfl rfl rfl ?_
    exact r_i iX8_count_146 rfl (⟨rfl, Sc.rf σ, Hd.rf α⟩)
  · refine v_tabOut (tgt := 147) iX8_count_1 (by omega) hsw (by decide) ?_
    refine v_bipush iX8_count_147 (by decide) ?_
    exact r_i iX8_count_149 rfl (⟨cf_i (cntU_o hsw).symm, Sc.rf σ, Hd.rf α⟩)

set_option maxHeartbeats 4000000 in
set_option maxRecDepth 100000 in
theorem qX8_least (σ α : St) {n : Nat} {V B N : Nat → Int} (hR : RV σ α n V B N) (hW : WF n V B N) {a b c : Int} (hU : RU σ a b c) {m : Nat} (hM : RR α n m) (F : Nat → Nat) (hF : ∀ s : Nat, fdS a b c V B N n (α 96) m (s : Int) = F s) (f : Int) (hf : InR f) : CG 11 mX8_least [vR 95, vI f] σ α (fun r' s' a' => r' = some (vI (if 0 ≤ f ∧ f ≤ 1 then (if f = 0 then ((fewU F (2 ^ m - 1) (onesU (F (2 ^ m - 1) : Nat) 10) (2 ^ m - 1)) : Int) else onesU ((fewU F (2 ^ m - 1) (onesU (F (2 ^ m - 1) : Nat) 10) (2 ^ m - 1)) : Nat) 10) else -3)) ∧ Sc σ s' ∧ Hd α a') := by
  have hn10 := hW.1
  have hm6 := hM.2.1
  have hp := pw6 hm6
  have hfl : ∀ s : Nat, F s < 1024 := fun s => by rw [← hF]; exact pow10 hn10 (msk_lt _ n)
  refine CG.of [some (vR 95), some (vI f), none, none, none] (by decide) (by simp [lvA]) rfl ?_
  refine v_iload_n iX8_least_0 rfl ?_
  refine v_i2l iX8_least_1 (by omega) ?_
  refine v_lconst (z := 0) iX8_least_2 rfl ?_
  refine v_lconst (z := 1) iX8_least_3 rfl ?_
  refine c_S1 (Mc := mX8_in) iX8_least_4 lX8_62 kX8_in (qX8_in _ _ _ _ _ hf (by decide) (by decide)) (by decide) rfl rfl (Nat.le_of_ble_eq_true rfl) ?_
  try simp only [Int.toNat_natCast]
  refine v_bif_ne (tgt := 13) iX8_least_7 (by decide) (fun h7 => ?_) (fun h7 => ?_)
  · try simp only [Int.toNat_natCast] at h7
    simp only [decide_eq_true_eq] at h7
    refine v_aload_n iX8_least_13 rfl ?_
    refine c_VQ (Mc := mX8_fed) iX8_least_14 lX8_215 kX8_fed (qX8_fed σ α hR hW hU hM) (by decide) rfl rfl rfl rfl (Nat.le_of_ble_eq_true rfl) ?_
    rintro σ1 a1 ⟨hs1, ha1⟩
    rw [ha1, hF]
    try simp only [Int.toNat_natCast]
    refine c_S1 (Mc := mX8_ones) iX8_least_17 lX8_225 kX8_ones (qX8_ones _ _ _ (by have := hfl (2 ^ m - 1); omega)) (by decide) rfl rfl (Nat.le_of_ble_eq_true rfl) ?_
    try simp only [Int.toNat_natCast]
    refine v_is2 iX8_least_20 ⟨rfl, rfl⟩ ?_
    refine v_aload_n iX8_least_21 rfl ?_
    refine c_V1 (Mc := mX8_allRisers) iX8_least_22 lX8_198 kX8_allRisers (qX8_allRisers _ _ (hM.lh _)) (by decide) rfl rfl rfl rfl (Nat.le_of_ble_eq_true rfl) ?_
    try simp only [Int.toNat_natCast]
    rw [show ((2 ^ m : Nat) - 1 : Int) = ((2 ^ m - 1 : Nat) : Int) by omega]
    refine v_is3 iX8_least_25 ⟨rfl, rfl⟩ ?_
    refine v_iconst iX8_least_26 ?_
    refine v_is4 iX8_least_27 ⟨rfl, rfl⟩ ?_
    refine ind_up (P := fun k => VV 11 mX8_least [vR 95, vI f] (fun r' s' a' => r' = some (vI (if 0 ≤ f ∧ f ≤ 1 then (if f = 0 then ((fewU F (2 ^ m - 1) (onesU (F (2 ^ m - 1) : Nat) 10) (2 ^ m - 1)) : Int) else onesU ((fewU F (2 ^ m - 1) (onesU (F (2 ^ m - 1) : Nat) 10) (2 ^ m - 1)) : Nat) 10) else -3)) ∧ Sc σ s' ∧ Hd α a') σ1 (LH c V B N n α) 29 [some (vR 95), some (vI f), some (vI (onesU (F (2 ^ m - 1) : Nat) 10)), some (vI ((fewU F (2 ^ m - 1) (onesU (F (2 ^ m - 1) : Nat) 10) k) : Int)), some (vI (k : Int))] []) (2 ^ m) ?_ 0 (by omega)
    intro k hk ih
    refine v_iload iX8_least_29 rfl ?_
    refine v_iconst iX8_least_31 ?_
    refine v_aload_n iX8_least_32 rfl ?_
    refine v_getR iX8_least_33 fX8_7 rfl rfl ?_
    refine v_iconst iX8_least_36 ?_
    refine v_iaload iX8_least_37 rfl (by omega) (by exact (show _ = (m : Int) by rw [LH_96]; exact hM.1)) ?_
    refine v_ishl1 iX8_least_38 (by omega) ?_
    rw [Int.toNat_natCast]
    refine v_icmp_ge (tgt := 76) iX8_least_39 (by decide) (by omega) (fun h39 => ?_) (fun h39 => ?_)
    · have hkn : k = 2 ^ m := by omega
      rw [hkn]
      obtain ⟨w, hw⟩ : ∃ w : Nat, (fewU F (2 ^ m - 1) (onesU (F (2 ^ m - 1) : Nat) 10) (2 ^ m)) = w := ⟨_, rfl⟩
      have hwr := fewU_r F (2 ^ m - 1) (onesU (F (2 ^ m - 1) : Nat) 10) (2 ^ m)
      rw [hw] at hwr ⊢
      refine v_iload_n iX8_least_76 rfl ?_
      refine v_iconst iX8_least_77 ?_
      refine v_isub iX8_least_78 ?_
      refine v_is4 iX8_least_79 ⟨rfl, rfl⟩ ?_
      have key : ∀ j : Nat, j ≤ w → VV 11 mX8_least [vR 95, vI f] (fun r' s' a' => r' = some (vI (if 0 ≤ f ∧ f ≤ 1 then (if f = 0 then ((fewU F (2 ^ m - 1) (onesU (F (2 ^ m - 1) : Nat) 10) (2 ^ m - 1)) : Int) else onesU ((fewU F (2 ^ m - 1) (onesU (F (2 ^ m - 1) : Nat) 10) (2 ^ m - 1)) : Nat) 10) else -3)) ∧ Sc σ s' ∧ Hd α a') σ1 (LH c V B N n α) 81 [some (vR 95), some (vI f), some (vI (onesU (F (2 ^ m - 1) : Nat) 10)), some (vI (w : Int)), some (vI ((j : Int) - 1))] [] := by
        intro j
        induction j with
        | zero =>
          intro _
          refine v_iload iX8_least_81 rfl ?_
          refine v_if_lt (tgt := 124) iX8_least_83 (by decide) (by omega) (fun h83 => ?_) (fun h83 => (by exfalso; omega))
          refine v_iload_n iX8_least_124 rfl ?_
          refine v_if_ne (tgt := 132) iX8_least_125 (by decide) (by omega) (fun h125 => ?_) (fun h125 => ?_)
          · refine v_iload_n iX8_least_132 rfl ?_
            refine c_S1 (Mc := mX8_ones) iX8_least_133 lX8_225 kX8_ones (qX8_ones _ _ _ (by omega)) (by decide) rfl rfl (Nat.le_of_ble_eq_true rfl) ?_
            try simp only [Int.toNat_natCast]
            exact r_i iX8_least_136 rfl (by first | exact ⟨cf_i (by rw [if_pos h7, if_pos h125, ← fewU_last hm6, hw]), hs1, Hd.lh c V B N n α⟩ | exact ⟨cf_i (by rw [if_pos h7, if_neg h125, ← fewU_last hm6, hw]), hs1, Hd.lh c V B N n α⟩)
          · refine v_iload_n iX8_least_128 rfl ?_
            refine v_goto (tgt := 136) iX8_least_129 (by decide) ?_
            exact r_i iX8_least_136 rfl (by first | exact ⟨cf_i (by rw [if_pos h7, if_pos h125, ← fewU_last hm6, hw]), hs1, Hd.lh c V B N n α⟩ | exact ⟨cf_i (by rw [if_pos h7, if_neg h125, ← fewU_last hm6, hw]), hs1, Hd.lh c V B N n α⟩)
        | succ j ih =>
          intro hj
          rw [show ((j + 1 : Nat) : Int) - 1 = (j : Int) by omega]
          refine v_iload iX8_least_81 rfl ?_
          refine v_if_lt (tgt := 124) iX8_least_83 (by decide) (by omega) (fun h83 => (by exfalso; omega)) (fun h83 => ?_)
          have q1 := onesU_r (j : Int) 10
          have q2 := onesU_r (w : Int) 10
          have q3 := onesU_r (F j : Int) 10
          have q4 := onesU_r (F (2 ^ m - 1) : Int) 10
          refine v_iload iX8_least_86 rfl ?_
          refine c_S1 (Mc := mX8_ones) iX8_least_88 lX8_225 kX8_ones (qX8_ones _ _ _ (by omega)) (by decide) rfl rfl (Nat.le_of_ble_eq_true rfl) ?_
          try simp only [Int.toNat_natCast]
          refine v_iload_n iX8_least_91 rfl ?_
          refine c_S1 (Mc := mX8_ones) iX8_least_92 lX8_225 kX8_ones (qX8_ones _ _ _ (by omega)) (by decide) rfl rfl (Nat.le_of_ble_eq_true rfl) ?_
          try simp only [Int.toNat_natCast]
          refine v_icmp_ne (tgt := 116) iX8_least_95 (by decide) (by omega) (fun h95 => ?_) (fun h95 => ?_)
          · refine v_iload_n iX8_least_116 rfl ?_
            refine v_is3 iX8_least_117 ⟨rfl, rfl⟩ ?_
            refine v_in4 iX8_least_118 ⟨rfl, rfl⟩ ?_
            refine v_goto (tgt := 81) iX8_least_121 (by decide) ?_
            exact ih (by omega)
          · refine v_aload_n iX8_least_98 rfl ?_
            refine v_iload iX8_least_99 rfl ?_
            refine c_V1 (Mc := mX8_fedBy) iX8_least_101 lX8_201 kX8_fedBy (LH_fed (hR.sc hs1) hW (hU.sc hs1) hM _ (by omega)) (by decide) rfl rfl rfl rfl (Nat.le_of_ble_eq_true rfl) ?_
            try simp only [Int.toNat_natCast]
            rw [hF]
            refine c_S1 (Mc := mX8_ones) iX8_least_104 lX8_225 kX8_ones (qX8_ones _ _ _ (by have := hfl j; omega)) (by decide) rfl rfl (Nat.le_of_ble_eq_true rfl) ?_
            try simp only [Int.toNat_natCast]
            refine v_iload_n iX8_least_107 rfl ?_
            refine v_icmp_ne (tgt := 116) iX8_least_108 (by decide) (by omega) (fun h108 => ?_) (fun h108 => ?_)
            · refine v_iload_n iX8_least_116 rfl ?_
              refine v_is3 iX8_least_117 ⟨rfl, rfl⟩ ?_
              refine v_in4 iX8_least_118 ⟨rfl, rfl⟩ ?_
              refine v_goto (tgt := 81) iX8_least_121 (by decide) ?_
              exact ih (by omega)
            · exact absurd ⟨by rw [hw]; exact h95, h108⟩ (fewU_noop (F := F) (most := (onesU (F (2 ^ m - 1) : Nat) 10)) hm6 (by rw [hw]; omega))
      exact key w (Nat.le_refl _)
    · have hfr := fewU_r F (2 ^ m - 1) (onesU (F (2 ^ m - 1) : Nat) 10) k
      have q1 := onesU_r (k : Int) 10
      have q2 := onesU_r ((fewU F (2 ^ m - 1) (onesU (F (2 ^ m - 1) : Nat) 10) k) : Int) 10
      have q3 := onesU_r (F k : Int) 10
      have q4 := onesU_r (F (2 ^ m - 1) : Int) 10
      refine v_iload iX8_least_42 rfl ?_
      refine c_S1 (Mc := mX8_ones) iX8_least_44 lX8_225 kX8_ones (qX8_ones _ _ _ (by omega)) (by decide) rfl rfl (Nat.le_of_ble_eq_true rfl) ?_
      try simp only [Int.toNat_natCast]
      refine v_iload_n iX8_least_47 rfl ?_
      refine c_S1 (Mc := mX8_ones) iX8_least_48 lX8_225 kX8_ones (qX8_ones _ _ _ (by omega)) (by decide) rfl rfl (Nat.le_of_ble_eq_true rfl) ?_
      try simp only [Int.toNat_natCast]
      refine v_icmp_ge (tgt := 70) iX8_least_51 (by decide) (by omega) (fun h51 => ?_) (fun h51 => ?_)
      · refine v_in4 iX8_least_70 ⟨rfl, rfl⟩ ?_
        refine v_goto (tgt := 29) iX8_least_73 (by decide) ?_
        refine (ih (by omega)).asw rfl rfl ⟨rfl, rfl, rfl, cf_i ?_, rfl, trivial⟩ rfl
        first
          | (rw [fewU, if_pos ⟨by omega, h64⟩]; done)
          | (rw [fewU, if_neg (fun q => h64 q.2)]; done)
          | (rw [fewU, if_neg (fun q => by omega)]; done)
      · refine v_aload_n iX8_least_54 rfl ?_
        refine v_iload iX8_least_55 rfl ?_
        refine c_V1 (Mc := mX8_fedBy) iX8_least_57 lX8_201 kX8_fedBy (LH_fed (hR.sc hs1) hW (hU.sc hs1) hM _ (by omega)) (by decide) rfl rfl rfl rfl (Nat.le_of_ble_eq_true rfl) ?_
        try simp only [Int.toNat_natCast]
        rw [hF]
        refine c_S1 (Mc := mX8_ones) iX8_least_60 lX8_225 kX8_ones (qX8_ones _ _ _ (by have := hfl k; omega)) (by decide) rfl rfl (Nat.le_of_ble_eq_true rfl) ?_
        try simp only [Int.toNat_natCast]
        refine v_iload_n iX8_least_63 rfl ?_
        refine v_icmp_ne (tgt := 70) iX8_least_64 (by decide) (by omega) (fun h64 => ?_) (fun h64 => ?_)
        · refine v_in4 iX8_least_70 ⟨rfl, rfl⟩ ?_
          refine v_goto (tgt := 29) iX8_least_73 (by decide) ?_
          refine (ih (by omega)).asw rfl rfl ⟨rfl, rfl, rfl, cf_i ?_, rfl, trivial⟩ rfl
          first
            | (rw [fewU, if_pos ⟨by omega, h64⟩]; done)
            | (rw [fewU, if_neg (fun q => h64 q.2)]; done)
            | (rw [fewU, if_neg (fun q => by omega)]; done)
        · refine v_iload iX8_least_67 rfl ?_
          refine v_is3 iX8_least_69 ⟨rfl, rfl⟩ ?_
          refine v_in4 iX8_least_70 ⟨rfl, rfl⟩ ?_
          refine v_goto (tgt := 29) iX8_least_73 (by decide) ?_
          refine (ih (by omega)).asw rfl rfl ⟨rfl, rfl, rfl, cf_i ?_, rfl, trivial⟩ rfl
          first
            | (rw [fewU, if_pos ⟨by omega, h64⟩]; done)
            | (rw [fewU, if_neg (fun q => h64 q.2)]; done)
            | (rw [fewU, if_neg (fun q => by omega)]; done)
  · try simp only [Int.toNat_natCast] at h7
    simp only [decide_eq_false_iff_not] at h7
    refine v_bipush iX8_least_10 (by decide) ?_
    exact r_i iX8_least_12 rfl (⟨cf_i (by rw [if_neg h7]), Sc.rf σ, Hd.rf α⟩)
