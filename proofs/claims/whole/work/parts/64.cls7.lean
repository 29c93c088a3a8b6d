set_option maxHeartbeats 4000000 in
set_option maxRecDepth 100000 in
theorem qX7_oneI (σ α : St) (x : Int) (hx : x = 0 ∨ x = 1) : CF 0 mX7_oneIf [vI x] σ α (some (vI x)) (σ) (α) := by
  refine CG.of [some (vI x)] (by decide) (by simp [lvA]) rfl ?_
  refine v_iload_n iX7_oneIf_0 rfl ?_
  refine v_if_eq (tgt := 8) iX7_oneIf_1 (by decide) (by omega) (fun h1 => ?_) (fun h1 => ?_)
  · refine v_iconst iX7_oneIf_8 ?_
    exact r_i iX7_oneIf_9 rfl (⟨cf_i (by omega), rfl, rfl⟩)
  · refine v_iconst iX7_oneIf_4 ?_
    refine v_goto (tgt := 9) iX7_oneIf_5 (by decide) ?_
    exact r_i iX7_oneIf_9 rfl (⟨cf_i (by omega), rfl, rfl⟩)

set_option maxHeartbeats 4000000 in
set_option maxRecDepth 100000 in
theorem qX7_top (σ α : St) {n : Nat} {V B N : Nat → Int} {c : Int} (hP : PV σ α n V B N c) (hW : WF n V B N) {a b : Int} (hU : RP σ a b) {m : Nat} (hM : RK σ α n m) (i : Nat) (hi : i < n) (f : Int) (hf : InR f) : CG 6 mX7_top [vR 0, vI (i : Int), vI f] σ α (fun r' s' a' => r' = some (vI (if 0 ≤ f ∧ f ≤ 4 then (if topR V B N n i then topU ((msk (fun j => decide (((clm V B N n 10 j).1 : Int) = i)) n : Nat) : Int) (drwR c V B N n i) (hds c V B N n i : Int) (fdrR a b V B (fun i => (hds c V B N n i : Int)) (α 24) (α 25) (α 26) m (2 ^ m - 1 : Nat) i) f else -4) else -3)) ∧ Cq σ α s' a') := by
  have hn10 := hW.1
  have hm6 := hM.2.1
  have hp := pw6 hm6
  refine CG.of [some (vR 0), some (vI (i : Int)), some (vI f)] (by decide) (by simp [lvA]) rfl ?_
  refine v_aload_n iX7_top_0 rfl ?_
  refine v_iload_n iX7_top_1 rfl ?_
  refine c_V1 (Mc := mX7_isSection) iX7_top_2 lX7_101 kX7_isSection (qX7_isSection σ α hP.1 hn10 i (by omega)) (by decide) rfl rfl rfl rfl (Nat.le_of_ble_eq_true rfl) ?_
  try simp only [Int.toNat_natCast]
  refine v_bif_ne (tgt := 11) iX7_top_5 (by decide) (fun h5 => ?_) (fun h5 => (by exfalso; simp at h5; omega))
  refine v_iload_n iX7_top_11 rfl ?_
  refine v_if_lt (tgt := 20) iX7_top_12 (by decide) (by omega) (fun h12 => ?_) (fun h12 => ?_)
  · refine v_bipush iX7_top_20 (by decide) ?_
    exact r_i iX7_top_22 rfl (⟨cf_i (by rw [if_neg (by omega)]), ⟨⟨σ 71 8, (uS_id σ 71 8).symm⟩, Agm.rf α⟩⟩)
  · refine v_iload_n iX7_top_15 rfl ?_
    refine v_iconst iX7_top_16 ?_
    refine v_icmp_le (tgt := 23) iX7_top_17 (by decide) (by omega) (fun h17 => ?_) (fun h17 => ?_)
    · refine v_aload_n iX7_top_23 rfl ?_
      refine v_getR iX7_top_24 fX7_62 rfl rfl ?_
      refine c_VN (Mc := mX3_settle) iX7_top_27 lX7_105 kX3_settle (qX3_settle σ α hP hW) (by decide) rfl rfl rfl rfl (Nat.le_of_ble_eq_true rfl) ?_
      rintro σ1 α1 ⟨hs1, hA, hS⟩
      have hK := hS.1
      have hU1 : RP σ1 a b := by rw [hs1]; exact hU
      have hM1 : RK σ1 α1 n m := by unfold RK; rw [hA 24 (by omega), hA 25 (by omega), hA 26 (by omega), hs1]; exact hM
      have hfr := fdrR_r a b V B (fun i => (hds c V B N n i : Int)) (α1 24) (α1 25) (α1 26) m (2 ^ m - 1 : Nat) i
      try simp only [Int.toNat_natCast]
      refine v_aload_n iX7_top_30 rfl ?_
      refine v_getR iX7_top_31 fX7_62 rfl rfl ?_
      refine v_iload_n iX7_top_34 rfl ?_
      refine c_V1 (Mc := mX3_isTop) iX7_top_35 lX7_130 kX3_isTop (qX3_isTop σ1 α1 hK hW i (by omega)) (by decide) rfl rfl rfl rfl (Nat.le_of_ble_eq_true rfl) ?_
      try simp only [Int.toNat_natCast]
      refine v_bif_ne (tgt := 44) iX7_top_38 (by decide) (fun h38 => ?_) (fun h38 => ?_)
      · try simp only [Int.toNat_natCast] at h38
        refine v_iload_n iX7_top_44 rfl ?_
        rcases (show f = 0 ∨ f = 1 ∨ f = 2 ∨ f = 3 ∨ (f < 0 ∨ 3 < f) by omega) with rfl | rfl | rfl | rfl | hsw
        · refine v_tabIn (tgt := 76) iX7_top_45 (by decide) (by decide) rfl (by decide) ?_
          refine v_aload_n iX7_top_76 rfl ?_
          refine v_getR iX7_top_77 fX7_62 rfl rfl ?_
          refine v_iload_n iX7_top_80 rfl ?_
          refine c_V1 (Mc := mX3_basin) iX7_top_81 lX7_143 kX3_basin (qX3_basin σ1 α1 hK hW (fun i hi => (hS.2 i hi).1) i (by omega)) (by decide) rfl rfl rfl rfl (Nat.le_of_ble_eq_true rfl) ?_
          try simp only [Int.toNat_natCast]
          exact r_i iX7_top_84 rfl (⟨cf_i (by rw [if_pos (by omega), if_pos h38]; rfl), ⟨⟨_, hs1⟩, hA⟩⟩)
        · refine v_tabIn (tgt := 85) iX7_top_45 (by decide) (by decide) rfl (by decide) ?_
          refine v_aload_n iX7_top_85 rfl ?_
          refine v_getR iX7_top_86 fX7_62 rfl rfl ?_
          refine v_getR iX7_top_89 fX7_146 rfl rfl ?_
          refine v_iload_n iX7_top_92 rfl ?_
          refine v_iaload iX7_top_93 rfl (by omega) (by exact (show _ = drwR c V B N n i by rw [Int.toNat_natCast, (hS.2 i hi).2.2.1, dIn, if_pos h38])) ?_
          exact r_i iX7_top_94 rfl (⟨cf_i (by rw [if_pos (by omega), if_pos h38]; rfl), ⟨⟨_, hs1⟩, hA⟩⟩)
        · refine v_tabIn (tgt := 95) iX7_top_45 (by decide) (by decide) rfl (by decide) ?_
          refine v_aload_n iX7_top_95 rfl ?_
          refine v_getR iX7_top_96 fX7_62 rfl rfl ?_
          refine v_getR iX7_top_99 fX7_149 rfl rfl ?_
          refine v_iload_n iX7_top_102 rfl ?_
          refine v_iaload iX7_top_103 rfl (by omega) (by exact (show _ = (hds c V B N n i : Int) by rw [Int.toNat_natCast, (hS.2 i hi).2.2.2, hdC_top hW 10 i h38, hds, clm_y h38])) ?_
          exact r_i iX7_top_104 rfl (⟨cf_i (by rw [if_pos (by omega), if_pos h38]; rfl), ⟨⟨_, hs1⟩, hA⟩⟩)
        · refine v_tabIn (tgt := 105) iX7_top_45 (by decide) (by decide) rfl (by decide) ?_
          refine v_aload_n iX7_top_105 rfl ?_
          refine v_getR iX7_top_106 fX7_62 rfl rfl ?_
          refine v_iload_n iX7_top_109 rfl ?_
          refine v_aload_n iX7_top_110 rfl ?_
          refine v_getR iX7_top_111 fX7_62 rfl rfl ?_
          refine c_V1 (Mc := mX3_allRisers) iX7_top_114 lX7_152 kX3_allRisers (qX3_allRisers σ1 α1 hM1) (by decide) rfl rfl rfl rfl (Nat.le_of_ble_eq_true rfl) ?_
          try simp only [Int.toNat_natCast]
          rw [show ((2 ^ m : Nat) - 1 : Int) = ((2 ^ m - 1 : Nat) : Int) by omega]
          refine c_V1 (Mc := mX3_feeder) iX7_top_117 lX7_156 kX3_feeder (qX3_feeder σ1 α1 hS hW hU1 hM1 i hi h38 _ (by omega)) (by decide) rfl rfl rfl rfl (Nat.le_of_ble_eq_true rfl) ?_
          try simp only [Int.toNat_natCast]
          refine v_iconst iX7_top_120 ?_
          refine v_icmp_eq (tgt := 128) iX7_top_121 (by decide) (by omega) (fun h121 => ?_) (fun h121 => ?_)
          · refine v_iconst iX7_top_128 ?_
            refine c_S1 (Mc := mX7_oneIf) iX7_top_129 lX7_133 kX7_oneIf (qX7_oneI _ _ _ (by omega)) (by decide) rfl rfl (Nat.le_of_ble_eq_true rfl) ?_
            try simp only [Int.toNat_natCast]
            exact r_i iX7_top_132 rfl (by first | exact ⟨cf_i (by rw [if_pos (by omega), if_pos h38]; rw [hA 24 (by omega), hA 25 (by omega), hA 26 (by omega)] at h121; exact (if_pos h121).symm), ⟨⟨_, hs1⟩, hA⟩⟩ | exact ⟨cf_i (by rw [if_pos (by omega), if_pos h38]; rw [hA 24 (by omega), hA 25 (by omega), hA 26 (by omega)] at h121; exact (if_neg h121).symm), ⟨⟨_, hs1⟩, hA⟩⟩)
          · refine v_iconst iX7_top_124 ?_
            refine v_goto (tgt := 129) iX7_top_125 (by decide) ?_
            refine c_S1 (Mc := mX7_oneIf) iX7_top_129 lX7_133 kX7_oneIf (qX7_oneI _ _ _ (by omega)) (by decide) rfl rfl (Nat.le_of_ble_eq_true rfl) ?_
            try simp only [Int.toNat_natCast]
            exact r_i iX7_top_132 rfl (by first | exact ⟨cf_i (by rw [if_pos (by omega), if_pos h38]; rw [hA 24 (by omega), hA 25 (by omega), hA 26 (by omega)] at h121; exact (if_pos h121).symm), ⟨⟨_, hs1⟩, hA⟩⟩ | exact ⟨cf_i (by rw [if_pos (by omega), if_pos h38]; rw [hA 24 (by omega), hA 25 (by omega), hA 26 (by omega)] at h121; exact (if_neg h121).symm), ⟨⟨_, hs1⟩, hA⟩⟩)
        · refine v_tabOut (tgt := 133) iX7_top_45 (by omega) hsw (by decide) ?_
          refine v_aload_n iX7_top_133 rfl ?_
          refine v_getR iX7_top_134 fX7_62 rfl rfl ?_
          refine v_iload_n iX7_top_137 rfl ?_
          refine v_aload_n iX7_top_138 rfl ?_
          refine v_getR iX7_top_139 fX7_62 rfl rfl ?_
          refine c_V1 (Mc := mX3_allRisers) iX7_top_142 lX7_152 kX3_allRisers (qX3_allRisers σ1 α1 hM1) (by decide) rfl rfl rfl rfl (Nat.le_of_ble_eq_true rfl) ?_
          try simp only [Int.toNat_natCast]
          rw [show ((2 ^ m : Nat) - 1 : Int) = ((2 ^ m - 1 : Nat) : Int) by omega]
          refine c_V1 (Mc := mX3_feeder) iX7_top_145 lX7_156 kX3_feeder (qX3_feeder σ1 α1 hS hW hU1 hM1 i hi h38 _ (by omega)) (by decide) rfl rfl rfl rfl (Nat.le_of_ble_eq_true rfl) ?_
          try simp only [Int.toNat_natCast]
          exact r_i iX7_top_148 rfl (⟨cf_i (by rw [if_pos (by omega), if_pos h38]; rw [hA 24 (by omega), hA 25 (by omega), hA 26 (by omega)]; rw [show f = 4 by omega]; rfl), ⟨⟨_, hs1⟩, hA⟩⟩)
      · try simp only [Int.toNat_natCast] at h38
        refine v_bipush iX7_top_41 (by decide) ?_
        exact r_i iX7_top_43 rfl (⟨cf_i (by rw [if_pos (by omega), if_neg (by rw [h38]; decide)]), ⟨⟨_, hs1⟩, hA⟩⟩)
    · refine v_bipush iX7_top_20 (by decide) ?_
      exact r_i iX7_top_22 rfl (⟨cf_i (by rw [if_neg (by omega)]), ⟨⟨σ 71 8, (uS_id σ 71 8).symm⟩, Agm.rf α⟩⟩)

set_option maxHeartbeats 4000000 in
set_option maxRecDepth 100000 in
theorem qX7_countOfTops (σ α : St) {n : Nat} {V B N : Nat → Int} {c : Int} (hP : PV σ α n V B N c) (hW : WF n V B N) {a b : Int} (hU : RP σ a b) {m : Nat} (hM : RK σ α n m) (f : Int) (hf : 3 ≤ f ∧ f ≤ 6) : CG 6 mX7_countOfTops [vR 0, vI f] σ α (fun r' s' a' => r' = some (vI (if f = 3 then ((msk (topR V B N n) n : Nat) : Int) else if f = 4 then ((msk (fun i => decide (dIn c V B N n i ≠ -1)) n : Nat) : Int) else if f = 5 then ((fedR a b V B N n (fun i => (hds c V B N n i : Int)) (α 24) (α 25) (α 26) m (2 ^ m - 1 : Nat) : Nat) : Int) else if ((fedR a b V B N n (fun i => (hds c V B N n i : Int)) (α 24) (α 25) (α 26) m (2 ^ m - 1 : Nat) : Nat) : Int) = ((msk (topR V B N n) n : Nat) : Int) then 1 else 0)) ∧ Cq σ α s' a') := by
  have hn10 := hW.1
  have hm6 := hM.2.1
  have hp := pw6 hm6
  have mt := pow10 hn10 (msk_lt (topR V B N n) n)
  refine CG.of [some (vR 0), some (vI f)] (by decide) (by simp [lvA]) rfl ?_
  refine v_aload_n iX7_countOfTops_0 rfl ?_
  refine v_getR iX7_countOfTops_1 fX7_62 rfl rfl ?_
  refine c_VN (Mc := mX3_settle) iX7_countOfTops_4 lX7_105 kX3_settle (qX3_settle σ α hP hW) (by decide) rfl rfl rfl rfl (Nat.le_of_ble_eq_true rfl) ?_
  rintro σ1 α1 ⟨hs1, hA, hS⟩
  have hK := hS.1
  have hU1 : RP σ1 a b := by rw [hs1]; exact hU
  have hM1 : RK σ1 α1 n m := by unfold RK; rw [hA 24 (by omega), hA 25 (by omega), hA 26 (by omega), hs1]; exact hM
  have hfl : fedR a b V B N n (fun i => (hds c V B N n i : Int)) (α1 24) (α1 25) (α1 26) m (2 ^ m - 1 : Nat) < 1024 := pow10 hn10 (msk_lt _ n)
  try simp only [Int.toNat_natCast]
  refine v_iload_n iX7_countOfTops_7 rfl ?_
  rcases (show f = 3 ∨ f = 4 ∨ f = 5 ∨ (f < 3 ∨ 5 < f) by omega) with rfl | rfl | rfl | hsw
  · refine v_tabIn (tgt := 36) iX7_countOfTops_8 (by decide) (by decide) rfl (by decide) ?_
    refine v_aload_n iX7_countOfTops_36 rfl ?_
    refine v_getR iX7_countOfTops_37 fX7_62 rfl rfl ?_
    refine c_V1 (Mc := mX3_tops) iX7_countOfTops_40 lX7_191 kX3_tops (qX3_tops σ1 α1 hK hW) (by decide) rfl rfl rfl rfl (Nat.le_of_ble_eq_true rfl) ?_
    try simp only [Int.toNat_natCast]
    exact r_i iX7_countOfTops_43 rfl (⟨rfl, ⟨⟨_, hs1⟩, hA⟩⟩)
  · refine v_tabIn (tgt := 44) iX7_countOfTops_8 (by decide) (by decide) rfl (by decide) ?_
    refine v_aload_n iX7_countOfTops_44 rfl ?_
    refine v_getR iX7_countOfTops_45 fX7_62 rfl rfl ?_
    refine c_V1 (Mc := mX3_drownedTops) iX7_countOfTops_48 lX7_286 kX3_drownedTops (qX3_drownedTops σ1 α1 hK hW c (fun i hi => (hS.2 i hi).2.2.1)) (by decide) rfl rfl rfl rfl (Nat.le_of_ble_eq_true rfl) ?_
    try simp only [Int.toNat_natCast]
    exact r_i iX7_countOfTops_51 rfl (⟨rfl, ⟨⟨_, hs1⟩, hA⟩⟩)
  · refine v_tabIn (tgt := 52) iX7_countOfTops_8 (by decide) (by decide) rfl (by decide) ?_
    refine v_aload_n iX7_countOfTops_52 rfl ?_
    refine v_getR iX7_countOfTops_53 fX7_62 rfl rfl ?_
    refine v_aload_n iX7_countOfTops_56 rfl ?_
    refine v_getR iX7_countOfTops_57 fX7_62 rfl rfl ?_
    refine c_V1 (Mc := mX3_allRisers) iX7_countOfTops_60 lX7_152 kX3_allRisers (qX3_allRisers σ1 α1 hM1) (by decide) rfl rfl rfl rfl (Nat.le_of_ble_eq_true rfl) ?_
    try simp only [Int.toNat_natCast]
    rw [show ((2 ^ m : Nat) - 1 : Int) = ((2 ^ m - 1 : Nat) : Int) by omega]
    refine c_V1 (Mc := mX3_fedTops) iX7_countOfTops_63 lX7_289 kX3_fedTops (qX3_fedTops σ1 α1 hS hW hU1 hM1 _ (by omega)) (by decide) rfl rfl rfl rfl (Nat.le_of_ble_eq_true rfl) ?_
    try simp only [Int.toNat_natCast]
    exact r_i iX7_countOfTops_66 rfl (⟨cf_i (by rw [hA 24 (by omega), hA 25 (by omega), hA 26 (by omega)]; rfl), ⟨⟨_, hs1⟩, hA⟩⟩)
  · refine v_tabOut (tgt := 67) iX7_countOfTops_8 (by omega) hsw (by decide) ?_
    refine v_aload_n iX7_countOfTops_67 rfl ?_
    refine v_getR iX7_countOfTops_68 fX7_62 rfl rfl ?_
    refine v_aload_n iX7_countOfTops_71 rfl ?_
    refine v_getR iX7_countOfTops_72 fX7_62 rfl rfl ?_
    refine c_V1 (Mc := mX3_allRisers) iX7_countOfTops_75 lX7_152 kX3_allRisers (qX3_allRisers σ1 α1 hM1) (by decide) rfl rfl rfl rfl (Nat.le_of_ble_eq_true rfl) ?_
    try simp only [Int.toNat_natCast]
    rw [show ((2 ^ m : Nat) - 1 : Int) = ((2 ^ m - 1 : Nat) : Int) by omega]
    refine c_V1 (Mc := mX3_fedTops) iX7_countOfTops_78 lX7_289 kX3_fedTops (qX3_fedTops σ1 α1 hS hW hU1 hM1 _ (by omega)) (by decide) rfl rfl rfl rfl (Nat.le_of_ble_eq_true rfl) ?_
    try simp only [Int.toNat_natCast]
    refine v_aload_n iX7_countOfTops_81 rfl ?_
    refine v_getR iX7_countOfTops_82 fX7_62 rfl rfl ?_
    refine c_V1 (Mc := mX3_tops) iX7_countOfTops_85 lX7_191 kX3_tops (qX3_tops σ1 α1 hK hW) (by decide) rfl rfl rfl rfl (Nat.le_of_ble_eq_true rfl) ?_
    try simp only [Int.toNat_natCast]
    refine v_icmp_ne (tgt := 95) iX7_countOfTops_88 (by decide) (by omega) (fun h88 => ?_) (fun h88 => ?_)
    · refine v_iconst iX7_countOfTops_95 ?_
      refine c_S1 (Mc := mX7_oneIf) iX7_countOfTops_96 lX7_133 kX7_oneIf (qX7_oneI _ _ _ (by omega)) (by decide) rfl rfl (Nat.le_of_ble_eq_true rfl) ?_
      try simp only [Int.toNat_natCast]
      exact r_i iX7_countOfTops_99 rfl (by first | exact ⟨cf_i (by rw [if_neg (by omega), if_neg (by omega), if_neg (by omega)]; rw [hA 24 (by omega), hA 25 (by omega), hA 26 (by omega)] at h88; exact (if_pos h88).symm), ⟨⟨_, hs1⟩, hA⟩⟩ | exact ⟨cf_i (by rw [if_neg (by omega), if_neg (by omega), if_neg (by omega)]; rw [hA 24 (by omega), hA 25 (by omega), hA 26 (by omega)] at h88; exact (if_neg h88).symm), ⟨⟨_, hs1⟩, hA⟩⟩)
    · refine v_iconst iX7_countOfTops_91 ?_
      refine v_goto (tgt := 96) iX7_countOfTops_92 (by decide) ?_
      refine c_S1 (Mc := mX7_oneIf) iX7_countOfTops_96 lX7_133 kX7_oneIf (qX7_oneI _ _ _ (by omega)) (by decide) rfl rfl (Nat.le_of_ble_eq_true rfl) ?_
      try simp only [Int.toNat_natCast]
      exact r_i iX7_countOfTops_99 rfl (by first | exact ⟨cf_i (by rw [if_neg (by omega), if_neg (by omega), if_neg (by omega)]; rw [hA 24 (by omega), hA 25 (by omega), hA 26 (by omega)] at h88; exact (if_pos h88).symm), ⟨⟨_, hs1⟩, hA⟩⟩ | exact ⟨cf_i (by rw [if_neg (by omega), if_neg (by omega), if_neg (by omega)]; rw [hA 24 (by omega), hA 25 (by omega), hA 26 (by omega)] at h88; exact (if_neg h88).symm), ⟨⟨_, hs1⟩, hA⟩⟩)

set_option maxHeartbeats 4000000 in
set_option maxRecDepth 100000 in
theorem qX7_thingsOfAllBins (σ α : St) {S : Nat → Int} (hS : ∀ t, t < 3 → S t ≤ 1000) (hB : ∀ t, t < 3 → (S t < 0 ∧ σ (89 + 2 * t) 3 = 0) ∨ (0 ≤ S t ∧ σ (89 + 2 * t) 3 = S t)) : CF 0 mX7_thingsOfAllBins [vR 0] σ α (some (vI (atU S 3))) (σ) (α) := by
  refine CG.of [some (vR 0), none, none] (by decide) (by simp [lvA]) rfl ?_
  refine v_iconst iX7_thingsOfAllBins_0 ?_
  refine v_is1 iX7_thingsOfAllBins_1 ⟨rfl, rfl⟩ ?_
  refine v_iconst iX7_thingsOfAllBins_2 ?_
  refine v_is2 iX7_thingsOfAllBins_3 ⟨rfl, rfl⟩ ?_
  refine ind_up (P := fun k => VV 0 mX7_thingsOfAllBins [vR 0] (fun r' s' a' => r' = some (vI (atU S 3)) ∧ s' = σ ∧ a' = α) σ α 4 [some (vR 0), some (vI (atU S k)), some (vI (k : Int))] []) 3 ?_ 0 (by omega)
  intro k hk ih
  refine v_iload_n iX7_thingsOfAllBins_4 rfl ?_
  refine v_iconst iX7_thingsOfAllBins_5 ?_
  refine v_icmp_ge (tgt := 27) iX7_thingsOfAllBins_6 (by decide) (by omega) (fun h6 => ?_) (fun h6 => ?_)
  · have hkn : k = 3 := by omega
    subst hkn
    refine v_iload_n iX7_thingsOfAllBins_27 rfl ?_
    exact r_i iX7_thingsOfAllBins_28 rfl (⟨cf_i (by rfl), rfl, rfl⟩)
  · have hak := atU_r hS k (by omega)
    have hsk := hS k (by omega)
    refine v_iload_n iX7_thingsOfAllBins_9 rfl ?_
    refine v_aload_n iX7_thingsOfAllBins_10 rfl ?_
    refine v_getR iX7_thingsOfAllBins_11 fX7_68 (by first | rfl | exact (isBin_at k (by omega)).1) rfl ?_
    refine v_iload_n iX7_thingsOfAllBins_14 rfl ?_
    refine v_aaload iX7_thingsOfAllBins_15 rfl (by decide) (by simp only [List.length_cons, List.length_nil]; omega) (bins_at k (by omega)) ?_
    refine v_getI iX7_thingsOfAllBins_16 fX7_242 (by first | rfl | exact (isBin_at k (by omega)).1) rfl (by exact (show _ = (if S k < 0 then 0 else S k) by have := hB k (by omega); split <;> omega)) ?_
    refine v_iadd iX7_thingsOfAllBins_19 ?_
    refine v_is1 iX7_thingsOfAllBins_20 ⟨rfl, rfl⟩ ?_
    refine v_in2 iX7_thingsOfAllBins_21 ⟨rfl, rfl⟩ ?_
    refine v_goto (tgt := 4) iX7_thingsOfAllBins_24 (by decide) ?_
    exact (ih (by omega)).as rfl rfl rfl rfl
