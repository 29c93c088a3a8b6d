set_option maxHeartbeats 4000000 in
set_option maxRecDepth 100000 in
theorem qX7_isSection (σ α : St) {n : Nat} (hn : σ 3 4 = (n : Int)) (hn10 : n ≤ 10) (i : Int) (hi : InR i) : CF 0 mX7_isSection [vR 0, vI i] σ α (some (vI (b2i (decide (0 ≤ i ∧ i < (n : Int)))))) (σ) (α) := by
  refine CG.of [some (vR 0), some (vI i)] (by decide) (by simp [lvA]) rfl ?_
  refine v_iload_n iX7_isSection_0 rfl ?_
  refine v_if_lt (tgt := 19) iX7_isSection_1 (by decide) (by omega) (fun h1 => ?_) (fun h1 => ?_)
  · refine v_iconst iX7_isSection_19 ?_
    exact r_b iX7_isSection_20 rfl (by first | exact b2i_01 _ | decide | omega) (by first | exact ⟨cf_i (by rw [decide_eq_true (show 0 ≤ i ∧ i < (n : Int) by omega)]; rfl), rfl, rfl⟩ | exact ⟨cf_i (by rw [decide_eq_false (show ¬ (0 ≤ i ∧ i < (n : Int)) by omega)]; rfl), rfl, rfl⟩)
  · refine v_iload_n iX7_isSection_4 rfl ?_
    refine v_aload_n iX7_isSection_5 rfl ?_
    refine v_getR iX7_isSection_6 fX7_19 rfl rfl ?_
    refine v_getI iX7_isSection_9 fX7_265 rfl rfl (by exact hn) ?_
    refine v_icmp_ge (tgt := 19) iX7_isSection_12 (by decide) (by omega) (fun h12 => ?_) (fun h12 => ?_)
    · refine v_iconst iX7_isSection_19 ?_
      exact r_b iX7_isSection_20 rfl (by first | exact b2i_01 _ | decide | omega) (by first | exact ⟨cf_i (by rw [decide_eq_true (show 0 ≤ i ∧ i < (n : Int) by omega)]; rfl), rfl, rfl⟩ | exact ⟨cf_i (by rw [decide_eq_false (show ¬ (0 ≤ i ∧ i < (n : Int)) by omega)]; rfl), rfl, rfl⟩)
    · refine v_iconst iX7_isSection_15 ?_
      refine v_goto (tgt := 20) iX7_isSection_16 (by decide) ?_
      exact r_b iX7_isSection_20 rfl (by first | exact b2i_01 _ | decide | omega) (by first | exact ⟨cf_i (by rw [decide_eq_true (show 0 ≤ i ∧ i < (n : Int) by omega)]; rfl), rfl, rfl⟩ | exact ⟨cf_i (by rw [decide_eq_false (show ¬ (0 ≤ i ∧ i < (n : Int)) by omega)]; rfl), rfl, rfl⟩)

set_option maxHeartbeats 4000000 in
set_option maxRecDepth 100000 in
theorem qX7_isRiser (σ α : St) {m : Nat} (hm : σ 22 4 = (m : Int)) (hm6 : m ≤ 6) (i : Int) (hi : InR i) : CF 0 mX7_isRiser [vR 0, vI i] σ α (some (vI (b2i (decide (0 ≤ i ∧ i < (m : Int)))))) (σ) (α) := by
  refine CG.of [some (vR 0), some (vI i)] (by decide) (by simp [lvA]) rfl ?_
  refine v_iload_n iX7_isRiser_0 rfl ?_
  refine v_if_lt (tgt := 19) iX7_isRiser_1 (by decide) (by omega) (fun h1 => ?_) (fun h1 => ?_)
  · refine v_iconst iX7_isRiser_19 ?_
    exact r_b iX7_isRiser_20 rfl (by first | exact b2i_01 _ | decide | omega) (by first | exact ⟨cf_i (by rw [decide_eq_true (show 0 ≤ i ∧ i < (m : Int) by omega)]; rfl), rfl, rfl⟩ | exact ⟨cf_i (by rw [decide_eq_false (show ¬ (0 ≤ i ∧ i < (m : Int)) by omega)]; rfl), rfl, rfl⟩)
  · refine v_iload_n iX7_isRiser_4 rfl ?_
    refine v_aload_n iX7_isRiser_5 rfl ?_
    refine v_getR iX7_isRiser_6 fX7_38 rfl rfl ?_
    refine v_getI iX7_isRiser_9 fX7_174 rfl rfl (by exact hm) ?_
    refine v_icmp_ge (tgt := 19) iX7_isRiser_12 (by decide) (by omega) (fun h12 => ?_) (fun h12 => ?_)
    · refine v_iconst iX7_isRiser_19 ?_
      exact r_b iX7_isRiser_20 rfl (by first | exact b2i_01 _ | decide | omega) (by first | exact ⟨cf_i (by rw [decide_eq_true (show 0 ≤ i ∧ i < (m : Int) by omega)]; rfl), rfl, rfl⟩ | exact ⟨cf_i (by rw [decide_eq_false (show ¬ (0 ≤ i ∧ i < (m : Int)) by omega)]; rfl), rfl, rfl⟩)
    · refine v_iconst iX7_isRiser_15 ?_
      refine v_goto (tgt := 20) iX7_isRiser_16 (by decide) ?_
      exact r_b iX7_isRiser_20 rfl (by first | exact b2i_01 _ | decide | omega) (by first | exact ⟨cf_i (by rw [decide_eq_true (show 0 ≤ i ∧ i < (m : Int) by omega)]; rfl), rfl, rfl⟩ | exact ⟨cf_i (by rw [decide_eq_false (show ¬ (0 ≤ i ∧ i < (m : Int)) by omega)]; rfl), rfl, rfl⟩)

set_option maxHeartbeats 4000000 in
set_option maxRecDepth 100000 in
theorem qX7_isSize (σ α : St) (i : Int) (hi : InR i) : CF 0 mX7_isSize [vI i] σ α (some (vI (b2i (decide (1 ≤ i ∧ i ≤ 99))))) (σ) (α) := by
  refine CG.of [some (vI i)] (by decide) (by simp [lvA]) rfl ?_
  refine v_iload_n iX7_isSize_0 rfl ?_
  refine v_iconst iX7_isSize_1 ?_
  refine v_icmp_lt (tgt := 15) iX7_isSize_2 (by decide) (by omega) (fun h2 => ?_) (fun h2 => ?_)
  · refine v_iconst iX7_isSize_15 ?_
    exact r_b iX7_isSize_16 rfl (by first | exact b2i_01 _ | decide | omega) (by first | exact ⟨cf_i (by rw [decide_eq_true (show 1 ≤ i ∧ i ≤ 99 by omega)]; rfl), rfl, rfl⟩ | exact ⟨cf_i (by rw [decide_eq_false (show ¬ (1 ≤ i ∧ i ≤ 99) by omega)]; rfl), rfl, rfl⟩)
  · refine v_iload_n iX7_isSize_5 rfl ?_
    refine v_bipush iX7_isSize_6 (by decide) ?_
    refine v_icmp_gt (tgt := 15) iX7_isSize_8 (by decide) (by omega) (fun h8 => ?_) (fun h8 => ?_)
    · refine v_iconst iX7_isSize_15 ?_
      exact r_b iX7_isSize_16 rfl (by first | exact b2i_01 _ | decide | omega) (by first | exact ⟨cf_i (by rw [decide_eq_true (show 1 ≤ i ∧ i ≤ 99 by omega)]; rfl), rfl, rfl⟩ | exact ⟨cf_i (by rw [decide_eq_false (show ¬ (1 ≤ i ∧ i ≤ 99) by omega)]; rfl), rfl, rfl⟩)
    · refine v_iconst iX7_isSize_11 ?_
      refine v_goto (tgt := 16) iX7_isSize_12 (by decide) ?_
      exact r_b iX7_isSize_16 rfl (by first | exact b2i_01 _ | decide | omega) (by first | exact ⟨cf_i (by rw [decide_eq_true (show 1 ≤ i ∧ i ≤ 99 by omega)]; rfl), rfl, rfl⟩ | exact ⟨cf_i (by rw [decide_eq_false (show ¬ (1 ≤ i ∧ i ≤ 99) by omega)]; rfl), rfl, rfl⟩)

set_option maxHeartbeats 4000000 in
set_option maxRecDepth 100000 in
theorem qX7_isChillStep (σ α : St) (i : Int) (hi : InR i) : CF 0 mX7_isChillStep [vI i] σ α (some (vI (b2i (decide (1 ≤ i ∧ i ≤ 9))))) (σ) (α) := by
  refine CG.of [some (vI i)] (by decide) (by simp [lvA]) rfl ?_
  refine v_iload_n iX7_isChillStep_0 rfl ?_
  refine v_iconst iX7_isChillStep_1 ?_
  refine v_icmp_lt (tgt := 15) iX7_isChillStep_2 (by decide) (by omega) (fun h2 => ?_) (fun h2 => ?_)
  · refine v_iconst iX7_isChillStep_15 ?_
    exact r_b iX7_isChillStep_16 rfl (by first | exact b2i_01 _ | decide | omega) (by first | exact ⟨cf_i (by rw [decide_eq_true (show 1 ≤ i ∧ i ≤ 9 by omega)]; rfl), rfl, rfl⟩ | exact ⟨cf_i (by rw [decide_eq_false (show ¬ (1 ≤ i ∧ i ≤ 9) by omega)]; rfl), rfl, rfl⟩)
  · refine v_iload_n iX7_isChillStep_5 rfl ?_
    refine v_bipush iX7_isChillStep_6 (by decide) ?_
    refine v_icmp_gt (tgt := 15) iX7_isChillStep_8 (by decide) (by omega) (fun h8 => ?_) (fun h8 => ?_)
    · refine v_iconst iX7_isChillStep_15 ?_
      exact r_b iX7_isChillStep_16 rfl (by first | exact b2i_01 _ | decide | omega) (by first | exact ⟨cf_i (by rw [decide_eq_true (show 1 ≤ i ∧ i ≤ 9 by omega)]; rfl), rfl, rfl⟩ | exact ⟨cf_i (by rw [decide_eq_false (show ¬ (1 ≤ i ∧ i ≤ 9) by omega)]; rfl), rfl, rfl⟩)
    · refine v_iconst iX7_isChillStep_11 ?_
      refine v_goto (tgt := 16) iX7_isChillStep_12 (by decide) ?_
      exact r_b iX7_isChillStep_16 rfl (by first | exact b2i_01 _ | decide | omega) (by first | exact ⟨cf_i (by rw [decide_eq_true (show 1 ≤ i ∧ i ≤ 9 by omega)]; rfl), rfl, rfl⟩ | exact ⟨cf_i (by rw [decide_eq_false (show ¬ (1 ≤ i ∧ i ≤ 9) by omega)]; rfl), rfl, rfl⟩)

set_option maxHeartbeats 4000000 in
set_option maxRecDepth 100000 in
theorem qX7_isKeepPlace (σ α : St) (i : Int) (hi : InR i) : CF 0 mX7_isKeepPlace [vI i] σ α (some (vI (b2i (decide (0 ≤ i ∧ i < 2))))) (σ) (α) := by
  refine CG.of [some (vI i)] (by decide) (by simp [lvA]) rfl ?_
  refine v_iload_n iX7_isKeepPlace_0 rfl ?_
  refine v_if_lt (tgt := 13) iX7_isKeepPlace_1 (by decide) (by omega) (fun h1 => ?_) (fun h1 => ?_)
  · refine v_iconst iX7_isKeepPlace_13 ?_
    exact r_b iX7_isKeepPlace_14 rfl (by first | exact b2i_01 _ | decide | omega) (by first | exact ⟨cf_i (by rw [decide_eq_true (show 0 ≤ i ∧ i < 2 by omega)]; rfl), rfl, rfl⟩ | exact ⟨cf_i (by rw [decide_eq_false (show ¬ (0 ≤ i ∧ i < 2) by omega)]; rfl), rfl, rfl⟩)
  · refine v_iload_n iX7_isKeepPlace_4 rfl ?_
    refine v_iconst iX7_isKeepPlace_5 ?_
    refine v_icmp_ge (tgt := 13) iX7_isKeepPlace_6 (by decide) (by omega) (fun h6 => ?_) (fun h6 => ?_)
    · refine v_iconst iX7_isKeepPlace_13 ?_
      exact r_b iX7_isKeepPlace_14 rfl (by first | exact b2i_01 _ | decide | omega) (by first | exact ⟨cf_i (by rw [decide_eq_true (show 0 ≤ i ∧ i < 2 by omega)]; rfl), rfl, rfl⟩ | exact ⟨cf_i (by rw [decide_eq_false (show ¬ (0 ≤ i ∧ i < 2) by omega)]; rfl), rfl, rfl⟩)
    · refine v_iconst iX7_isKeepPlace_9 ?_
      refine v_goto (tgt := 14) iX7_isKeepPlace_10 (by decide) ?_
      exact r_b iX7_isKeepPlace_14 rfl (by first | exact b2i_01 _ | decide | omega) (by first | exact ⟨cf_i (by rw [decide_eq_true (show 0 ≤ i ∧ i < 2 by omega)]; rfl), rfl, rfl⟩ | exact ⟨cf_i (by rw [decide_eq_false (show ¬ (0 ≤ i ∧ i < 2) by omega)]; rfl), rfl, rfl⟩)

set_option maxHeartbeats 4000000 in
set_option maxRecDepth 100000 in
theorem qX7_oneIf (σ α : St) (b : Bool) : CF 0 mX7_oneIf [vI (b2i b)] σ α (some (vI (b2i b))) (σ) (α) := by
  refine CG.of [some (vI (b2i b))] (by decide) (by simp [lvA]) rfl ?_
  refine v_iload_n iX7_oneIf_0 rfl ?_
  refine v_bif_eq (tgt := 8) iX7_oneIf_1 (by decide) (fun h1 => ?_) (fun h1 => ?_)
  · try simp only [Int.toNat_natCast] at h1
    refine v_iconst iX7_oneIf_8 ?_
    exact r_i iX7_oneIf_9 rfl (⟨cf_i (by rw [h1]; rfl), rfl, rfl⟩)
  · try simp only [Int.toNat_natCast] at h1
    refine v_iconst iX7_oneIf_4 ?_
    refine v_goto (tgt := 9) iX7_oneIf_5 (by decide) ?_
    exact r_i iX7_oneIf_9 rfl (⟨cf_i (by rw [h1]; rfl), rfl, rfl⟩)

set_option maxHeartbeats 4000000 in
set_option maxRecDepth 100000 in
theorem qX7_order (σ α : St) {n : Nat} {V B N : Nat → Int} {c : Int} (hP : PV σ α n V B N c) (hW : WF n V B N) (r : Int) (hr : InR r) : CG 6 mX7_order [vR 0, vI r] σ α (fun r' s' a' => r' = some (vI (if 0 ≤ r then fst1 (fun s => decide (rkU V B s n = r)) n 0 else -3)) ∧ Cq σ α s' a') := by
  refine CG.of [some (vR 0), some (vI r)] (by decide) (by simp [lvA]) rfl ?_
  refine v_iload_n iX7_order_0 rfl ?_
  refine v_if_ge (tgt := 7) iX7_order_1 (by decide) (by omega) (fun h1 => ?_) (fun h1 => ?_)
  · refine v_aload_n iX7_order_7 rfl ?_
    refine v_getR iX7_order_8 fX7_62 rfl rfl ?_
    refine c_VN (Mc := mX3_settle) iX7_order_11 lX7_105 kX3_settle (qX3_settle σ α hP hW) (by decide) rfl rfl rfl rfl (Nat.le_of_ble_eq_true rfl) ?_
    rintro σ1 α1 ⟨hs1, hA, hS⟩
    have hK := hS.1
    try simp only [Int.toNat_natCast]
    refine v_aload_n iX7_order_14 rfl ?_
    refine v_getR iX7_order_15 fX7_62 rfl rfl ?_
    refine v_iload_n iX7_order_18 rfl ?_
    refine c_V1 (Mc := mX3_atRank) iX7_order_19 lX7_208 kX3_atRank (qX3_atRank σ1 α1 hK hW r hr) (by decide) rfl rfl rfl rfl (Nat.le_of_ble_eq_true rfl) ?_
    try simp only [Int.toNat_natCast]
    exact r_i iX7_order_22 rfl (⟨cf_i (by rw [if_pos h1]), ⟨⟨_, hs1⟩, hA⟩⟩)
  · refine v_bipush iX7_order_4 (by decide) ?_
    exact r_i iX7_order_6 rfl (⟨cf_i (by rw [if_neg (by omega)]), ⟨⟨σ 71 8, (uS_id σ 71 8).symm⟩, Agm.rf α⟩⟩)

set_option maxHeartbeats 4000000 in
set_option maxRecDepth 100000 in
theorem qX7_need (σ α : St) {n : Nat} {V B N : Nat → Int} {c : Int} (hP : PV σ α n V B N c) (hW : WF n V B N) {a b : Int} (hU : RP σ a b) (i : Nat) (hi : i < n) (k : Int) (hk : InR k) : CG 6 mX7_need [vR 0, vI (i : Int), vI k] σ α (fun r' s' a' => r' = some (vI (if 1 ≤ k ∧ k ≤ 99 then (if topR V B N n i then fst1 (fun v => outl a b V B v k i) 999 1 else -4) else -3)) ∧ Cq σ α s' a') := by
  have hn10 := hW.1
  refine CG.of [some (vR 0), some (vI (i : Int)), some (vI k)] (by decide) (by simp [lvA]) rfl ?_
  refine v_aload_n iX7_need_0 rfl ?_
  refine v_iload_n iX7_need_1 rfl ?_
  refine c_V1 (Mc := mX7_isSection) iX7_need_2 lX7_101 kX7_isSection (qX7_isSection σ α hP.1 hn10 i (by omega)) (by decide) rfl rfl rfl rfl (Nat.le_of_ble_eq_true rfl) ?_
  try simp only [Int.toNat_natCast]
  refine v_bif_ne (tgt := 11) iX7_need_5 (by decide) (fun h5 => ?_) (fun h5 => (by exfalso; simp at h5; omega))
  refine v_iload_n iX7_need_11 rfl ?_
  refine c_S1 (Mc := mX7_isSize) iX7_need_12 lX7_171 kX7_isSize (qX7_isSize _ _ k hk) (by decide) rfl rfl (Nat.le_of_ble_eq_true rfl) ?_
  try simp only [Int.toNat_natCast]
  refine v_bif_ne (tgt := 21) iX7_need_15 (by decide) (fun h15 => ?_) (fun h15 => ?_)
  · try simp only [Int.toNat_natCast] at h15
    simp only [decide_eq_true_eq] at h15
    refine v_aload_n iX7_need_21 rfl ?_
    refine v_getR iX7_need_22 fX7_62 rfl rfl ?_
    refine c_VN (Mc := mX3_settle) iX7_need_25 lX7_105 kX3_settle (qX3_settle σ α hP hW) (by decide) rfl rfl rfl rfl (Nat.le_of_ble_eq_true rfl) ?_
    rintro σ1 α1 ⟨hs1, hA, hS⟩
    have hK := hS.1
    have hU1 : RP σ1 a b := by rw [hs1]; exact hU
    try simp only [Int.toNat_natCast]
    refine v_aload_n iX7_need_28 rfl ?_
    refine v_getR iX7_need_29 fX7_62 rfl rfl ?_
    refine v_iload_n iX7_need_32 rfl ?_
    refine c_V1 (Mc := mX3_isTop) iX7_need_33 lX7_130 kX3_isTop (qX3_isTop σ1 α1 hK hW i (by omega)) (by decide) rfl rfl rfl rfl (Nat.le_of_ble_eq_true rfl) ?_
    try simp only [Int.toNat_natCast]
    refine v_bif_ne (tgt := 42) iX7_need_36 (by decide) (fun h36 => ?_) (fun h36 => ?_)
    · try simp only [Int.toNat_natCast] at h36
      refine v_aload_n iX7_need_42 rfl ?_
      refine v_getR iX7_need_43 fX7_62 rfl rfl ?_
      refine v_iload_n iX7_need_46 rfl ?_
      refine v_iload_n iX7_need_47 rfl ?_
      refine c_V1 (Mc := mX3_leastVolume) iX7_need_48 lX7_214 kX3_leastVolume (qX3_leastVolume σ1 α1 hK hW hU1 i k (by omega) (by omega)) (by decide) rfl rfl rfl rfl (Nat.le_of_ble_eq_true rfl) ?_
      try simp only [Int.toNat_natCast]
      exact r_i iX7_need_51 rfl (⟨cf_i (by rw [if_pos h15, if_pos h36]), ⟨⟨_, hs1⟩, hA⟩⟩)
    · try simp only [Int.toNat_natCast] at h36
      refine v_bipush iX7_need_39 (by decide) ?_
      exact r_i iX7_need_41 rfl (⟨cf_i (by rw [if_pos h15, if_neg (by rw [h36]; decide)]), ⟨⟨_, hs1⟩, hA⟩⟩)
  · try simp only [Int.toNat_natCast] at h15
    simp only [decide_eq_false_iff_not] at h15
    refine v_bipush iX7_need_18 (by decide) ?_
    exact r_i iX7_need_20 rfl (⟨cf_i (by rw [if_neg h15]), ⟨⟨σ 71 8, (uS_id σ 71 8).symm⟩, Agm.rf α⟩⟩)

set_option maxHeartbeats 4000000 in
set_option maxRecDepth 100000 in
theorem qX7_least (σ α : St) {n : Nat} {V B N : Nat → Int} {c : Int} (hP : PV σ α n V B N c) (hW : WF n V B N) {a b : Int} (hU : RP σ a b) {m : Nat} (hM : RK σ α n m) (F : Nat → Nat) (hF : ∀ s : Nat, fedR a b V B N n (fun i => (hds c V B N n i : Int)) (α 24) (α 25) (α 26) m (s : Int) = F s) (f : Int) (hf : InR f) : CG 6 mX7_least [vR 0, vI f] σ α (fun r' s' a' => r' = some (vI (if 0 ≤ f ∧ f ≤ 1 then (if f = 0 then (fewU F (2 ^ m - 1) (onesU (F (2 ^ m - 1) : Nat) 10) (2 ^ m - 1) : Int) else onesU (fewU F (2 ^ m - 1) (onesU (F (2 ^ m - 1) : Nat) 10) (2 ^ m - 1) : Nat) 10) else -3)) ∧ Cq σ α s' a') := by
  have hm6 := hM.2.1
  have hp := pw6 hm6
  have hfr := fewU_r F (2 ^ m - 1) (onesU (F (2 ^ m - 1) : Nat) 10) (2 ^ m - 1)
  refine CG.of [some (vR 0), some (vI f), none] (by decide) (by simp [lvA]) rfl ?_
  refine v_iload_n iX7_least_0 rfl ?_
  refine v_if_lt (tgt := 9) iX7_least_1 (by decide) (by omega) (fun h1 => ?_) (fun h1 => ?_)
  · refine v_bipush iX7_least_9 (by decide) ?_
    exact r_i iX7_least_11 rfl (⟨cf_i (by rw [if_neg (by omega)]), ⟨⟨σ 71 8, (uS_id σ 71 8).symm⟩, Agm.rf α⟩⟩)
  · refine v_iload_n iX7_least_4 rfl ?_
    refine v_iconst iX7_least_5 ?_
    refine v_icmp_le (tgt := 12) iX7_least_6 (by decide) (by omega) (fun h6 => ?_) (fun h6 => ?_)
    · refine v_aload_n iX7_least_12 rfl ?_
      refine v_getR iX7_least_13 fX7_62 rfl rfl ?_
      refine c_VN (Mc := mX3_settle) iX7_least_16 lX7_105 kX3_settle (qX3_settle σ α hP hW) (by decide) rfl rfl rfl rfl (Nat.le_of_ble_eq_true rfl) ?_
      rintro σ1 α1 ⟨hs1, hA, hS⟩
      have hK := hS.1
      have hU1 : RP σ1 a b := by rw [hs1]; exact hU
      have hM1 : RK σ1 α1 n m := by unfold RK; rw [hA 24 (by omega), hA 25 (by omega), hA 26 (by omega), hs1]; exact hM
      try simp only [Int.toNat_natCast]
      refine v_aload_n iX7_least_19 rfl ?_
      refine v_getR iX7_least_20 fX7_62 rfl rfl ?_
      refine c_V1 (Mc := mX3_fewestRisers) iX7_least_23 lX7_223 kX3_fewestRisers (qX3_fewestRisers σ1 α1 hS hW hU1 hM1 F (by rw [hA 24 (by omega), hA 25 (by omega), hA 26 (by omega)]; exact hF)) (by decide) rfl rfl rfl rfl (Nat.le_of_ble_eq_true rfl) ?_
      try simp only [Int.toNat_natCast]
      refine v_is2 iX7_least_26 ⟨rfl, rfl⟩ ?_
      refine v_iload_n iX7_least_27 rfl ?_
      refine v_if_ne (tgt := 35) iX7_least_28 (by decide) (by omega) (fun h28 => ?_) (fun h28 => ?_)
      · refine v_iload_n iX7_least_35 rfl ?_
        refine c_S1 (Mc := mJ6_bitCount_0f7a4) iX7_least_36 lX7_194 kJ6_bitCount_0f7a4 (qJ6_bitCount_0f7a4 _ _ _ (by omega)) (by decide) rfl rfl (Nat.le_of_ble_eq_true rfl) ?_
        try simp only [Int.toNat_natCast]
        exact r_i iX7_least_39 rfl (by first | exact ⟨cf_i (by rw [if_pos (by omega), if_pos h28]), ⟨⟨_, hs1⟩, hA⟩⟩ | exact ⟨cf_i (by rw [if_pos (by omega), if_neg h28]), ⟨⟨_, hs1⟩, hA⟩⟩)
      · refine v_iload_n iX7_least_31 rfl ?_
        refine v_goto (tgt := 39) iX7_least_32 (by decide) ?_
        exact r_i iX7_least_39 rfl (by first | exact ⟨cf_i (by rw [if_pos (by omega), if_pos h28]), ⟨⟨_, hs1⟩, hA⟩⟩ | exact ⟨cf_i (by rw [if_pos (by omega), if_neg h28]), ⟨⟨_, hs1⟩, hA⟩⟩)
    · refine v_bipush iX7_least_9 (by decide) ?_
      exact r_i iX7_least_11 rfl (⟨cf_i (by rw [if_neg (by omega)]), ⟨⟨σ 71 8, (uS_id σ 71 8).symm⟩, Agm.rf α⟩⟩)
