set_option maxHeartbeats 4000000 in
set_option maxRecDepth 100000 in
theorem qX8_move (σ α : St) {n : Nat} (hn : σ 95 1 = (n : Int)) (hn10 : n ≤ 10) {u : Nat} (hu : σ 95 8 = u) (hu8 : u ≤ 8) (a b : Nat) (ha : a < n) (hb : b < n) (hab : a ≠ b) (ca cb : Int) (hca : α 96 (19 + a) = ca) (hcb : α 96 (19 + b) = cb) (hca2 : 0 ≤ ca ∧ ca ≤ 9) (hcb2 : 0 ≤ cb ∧ cb ≤ 9) (v : Int) (hv : InR v) : CF 2 mX8_move [vR 95, vI (a : Int), vI (b : Int), vI v] σ α (some (vI (if 1 ≤ v ∧ v ≤ 9 then (if v ≤ ca ∧ cb + v ≤ 9 then cb + v else -4) else -3))) (if (1 ≤ v ∧ v ≤ 9) ∧ v ≤ ca ∧ cb + v ≤ 9 then uS σ 95 8 (kpU u : Int) else σ) (if (1 ≤ v ∧ v ≤ 9) ∧ v ≤ ca ∧ cb + v ≤ 9 then uA α 96 (uF (uF (kpR (α 96) u) (19 + a) (ca - v)) (19 + b) (cb + v)) else α) := by
  refine CG.of [some (vR 95), some (vI (a : Int)), some (vI (b : Int)), some (vI v)] (by decide) (by simp [lvA]) rfl ?_
  refine v_aload_n iX8_move_0 rfl ?_
  refine v_iload_n iX8_move_1 rfl ?_
  refine c_V1 (Mc := mX8_isSection) iX8_move_2 lX8_204 kX8_isSection (qX8_isSection σ α n a (by omega) hn hn10) (by decide) rfl rfl rfl rfl (Nat.le_of_ble_eq_true rfl) ?_
  try simp only [Int.toNat_natCast]
  refine v_bif_eq (tgt := 21) iX8_move_5 (by decide) (fun h5 => (by exfalso; simp at h5; omega)) (fun h5 => ?_)
  refine v_aload_n iX8_move_8 rfl ?_
  refine v_iload_n iX8_move_9 rfl ?_
  refine c_V1 (Mc := mX8_isSection) iX8_move_10 lX8_204 kX8_isSection (qX8_isSection σ α n b (by omega) hn hn10) (by decide) rfl rfl rfl rfl (Nat.le_of_ble_eq_true rfl) ?_
  try simp only [Int.toNat_natCast]
  refine v_bif_eq (tgt := 21) iX8_move_13 (by decide) (fun h13 => (by exfalso; simp at h13; omega)) (fun h13 => ?_)
  refine v_iload_n iX8_move_16 rfl ?_
  refine v_iload_n iX8_move_17 rfl ?_
  refine v_icmp_ne (tgt := 24) iX8_move_18 (by decide) (by omega) (fun h18 => ?_) (fun h18 => (by exfalso; omega))
  refine v_iload_n iX8_move_24 rfl ?_
  refine v_i2l iX8_move_25 (by omega) ?_
  refine v_lconst (z := 1) iX8_move_26 rfl ?_
  refine v_ldc2 iX8_move_27 gX8_223 ?_
  refine c_S1 (Mc := mX8_in) iX8_move_30 lX8_62 kX8_in (qX8_in _ _ _ _ _ hv (by decide) (by decide)) (by decide) rfl rfl (Nat.le_of_ble_eq_true rfl) ?_
  try simp only [Int.toNat_natCast]
  refine v_bif_ne (tgt := 39) iX8_move_33 (by decide) (fun h33 => ?_) (fun h33 => ?_)
  · try simp only [Int.toNat_natCast] at h33
    simp only [decide_eq_true_eq] at h33
    refine v_aload_n iX8_move_39 rfl ?_
    refine v_getR iX8_move_40 fX8_7 rfl rfl ?_
    refine v_bipush iX8_move_43 (by decide) ?_
    refine v_iload_n iX8_move_45 rfl ?_
    refine v_iadd iX8_move_46 ?_
    refine v_iaload iX8_move_47 rfl (by omega) (by exact (show _ = ca by rw [show ((19 : Int) + (a : Int)).toNat = 19 + a by omega]; exact hca)) ?_
    refine v_iload_n iX8_move_48 rfl ?_
    refine v_icmp_lt (tgt := 68) iX8_move_49 (by decide) (by omega) (fun h49 => ?_) (fun h49 => ?_)
    · refine v_bipush iX8_move_68 (by decide) ?_
      exact r_i iX8_move_70 rfl (⟨cf_i (by rw [if_pos h33, if_neg (by omega)]), by rw [if_neg (by omega)], by rw [if_neg (by omega)]⟩)
    · refine v_aload_n iX8_move_52 rfl ?_
      refine v_getR iX8_move_53 fX8_7 rfl rfl ?_
      refine v_bipush iX8_move_56 (by decide) ?_
      refine v_iload_n iX8_move_58 rfl ?_
      refine v_iadd iX8_move_59 ?_
      refine v_iaload iX8_move_60 rfl (by omega) (by exact (show _ = cb by rw [show ((19 : Int) + (b : Int)).toNat = 19 + b by omega]; exact hcb)) ?_
      refine v_iload_n iX8_move_61 rfl ?_
      refine v_iadd iX8_move_62 ?_
      refine v_bipush iX8_move_63 (by decide) ?_
      refine v_icmp_le (tgt := 71) iX8_move_65 (by decide) (by omega) (fun h65 => ?_) (fun h65 => ?_)
      · refine v_aload_n iX8_move_71 rfl ?_
        refine c_V0 (Mc := mX8_keepPast) iX8_move_72 lX8_220 kX8_keepPast (qX8_keepPast σ α u hu hu8) (by decide) rfl rfl rfl rfl (Nat.le_of_ble_eq_true rfl) ?_
        try simp only [Int.toNat_natCast]
        refine v_aload_n iX8_move_75 rfl ?_
        refine v_getR iX8_move_76 fX8_7 rfl rfl ?_
        refine v_bipush iX8_move_79 (by decide) ?_
        refine v_iload_n iX8_move_81 rfl ?_
        refine v_iadd iX8_move_82 ?_
        refine v_dup2 iX8_move_83 ⟨(by intro z h; cases h), (by intro z h; cases h)⟩ ?_
        refine v_iaload iX8_move_84 rfl (by omega) (by exact (show _ = ca by rw [uA_eq, show ((19 : Int) + (a : Int)).toNat = 19 + a by omega, kpR_lo _ (by omega)]; exact hca)) ?_
        refine v_iload_n iX8_move_85 rfl ?_
        refine v_isub iX8_move_86 ?_
        refine v_iastore iX8_move_87 rfl (by omega) ?_
        refine v_aload_n iX8_move_88 rfl ?_
        refine v_getR iX8_move_89 fX8_7 rfl rfl ?_
        refine v_bipush iX8_move_92 (by decide) ?_
        refine v_iload_n iX8_move_94 rfl ?_
        refine v_iadd iX8_move_95 ?_
        refine v_dup2 iX8_move_96 ⟨(by intro z h; cases h), (by intro z h; cases h)⟩ ?_
        refine v_iaload iX8_move_97 rfl (by omega) (by exact (show _ = cb by rw [uA_eq, show ((19 : Int) + (a : Int)).toNat = 19 + a by omega, show ((19 : Int) + (b : Int)).toNat = 19 + b by omega, uF_ne _ _ (by omega), uA_eq, kpR_lo _ (by omega)]; exact hcb)) ?_
        refine v_iload_n iX8_move_98 rfl ?_
        refine v_iadd iX8_move_99 ?_
        refine v_iastore iX8_move_100 rfl (by omega) ?_
        refine v_aload_n iX8_move_101 rfl ?_
        refine v_getR iX8_move_102 fX8_7 rfl rfl ?_
        refine v_bipush iX8_move_105 (by decide) ?_
        refine v_iload_n iX8_move_107 rfl ?_
        refine v_iadd iX8_move_108 ?_
        refine v_iaload iX8_move_109 rfl (by omega) (by exact (show _ = cb + v by rw [uA_eq, uF_eq])) ?_
        exact r_i iX8_move_110 rfl (⟨cf_i (by rw [if_pos h33, if_pos (by omega)]), by rw [if_pos (by omega)], by rw [if_pos (by omega)]; simp only [uA_eq, uA_uA, show ((19 : Int) + (a : Int)).toNat = 19 + a by omega, show ((19 : Int) + (b : Int)).toNat = 19 + b by omega]⟩)
      · refine v_bipush iX8_move_68 (by decide) ?_
        exact r_i iX8_move_70 rfl (⟨cf_i (by rw [if_pos h33, if_neg (by omega)]), by rw [if_neg (by omega)], by rw [if_neg (by omega)]⟩)
  · try simp only [Int.toNat_natCast] at h33
    simp only [decide_eq_false_iff_not] at h33
    refine v_bipush iX8_move_36 (by decide) ?_
    exact r_i iX8_move_38 rfl (⟨cf_i (by rw [if_neg h33]), by rw [if_neg (by omega)], by rw [if_neg (by omega)]⟩)

set_option maxHeartbeats 4000000 in
set_option maxRecDepth 100000 in
theorem qX8_chill (σ α : St) {u : Nat} (hu : σ 95 8 = u) (hu8 : u ≤ 8) {n : Nat} {V B N : Nat → Int} (hn : σ 95 1 = (n : Int)) (hW : WF n V B N) (i : Nat) (hi : i < n) (v : Int) (hv : 0 ≤ v ∧ v ≤ 9) (ci : Int) (hci : α 96 (19 + i) = ci) (hci2 : 0 ≤ ci ∧ ci ≤ 9) (hne : ci ≠ v) (hR : RV (uS σ 95 8 (kpU u : Int)) (uA α 96 (uF (kpR (α 96) u) (19 + i) v)) n V B N) : CF 5 mX8_chill [vR 95, vI (i : Int), vI v] σ α (some (vI (onesU (msk (topR V B N n) n : Nat) 10))) (uS σ 95 8 (kpU u : Int)) (uA α 96 (uF (kpR (α 96) u) (19 + i) v)) := by
  have hn10 := hW.1
  have mt := pow10 hn10 (msk_lt (topR V B N n) n)
  refine CG.of [some (vR 95), some (vI (i : Int)), some (vI v)] (by decide) (by simp [lvA]) rfl ?_
  refine v_aload_n iX8_chill_0 rfl ?_
  refine v_iload_n iX8_chill_1 rfl ?_
  refine c_V1 (Mc := mX8_isSection) iX8_chill_2 lX8_204 kX8_isSection (qX8_isSection σ α n i (by omega) hn hn10) (by decide) rfl rfl rfl rfl (Nat.le_of_ble_eq_true rfl) ?_
  try simp only [Int.toNat_natCast]
  refine v_bif_ne (tgt := 11) iX8_chill_5 (by decide) (fun h5 => ?_) (fun h5 => (by exfalso; simp at h5; omega))
  refine v_iload_n iX8_chill_11 rfl ?_
  refine v_i2l iX8_chill_12 (by omega) ?_
  refine v_lconst (z := 0) iX8_chill_13 rfl ?_
  refine v_ldc2 iX8_chill_14 gX8_223 ?_
  refine c_S1 (Mc := mX8_in) iX8_chill_17 lX8_62 kX8_in (qX8_in _ _ _ _ _ (by omega) (by decide) (by decide)) (by decide) rfl rfl (Nat.le_of_ble_eq_true rfl) ?_
  try simp only [Int.toNat_natCast]
  refine v_bif_ne (tgt := 26) iX8_chill_20 (by decide) (fun h20 => ?_) (fun h20 => (by exfalso; simp at h20; omega))
  refine v_aload_n iX8_chill_26 rfl ?_
  refine v_getR iX8_chill_27 fX8_7 rfl rfl ?_
  refine v_bipush iX8_chill_30 (by decide) ?_
  refine v_iload_n iX8_chill_32 rfl ?_
  refine v_iadd iX8_chill_33 ?_
  refine v_iaload iX8_chill_34 rfl (by omega) (by exact (show _ = ci by rw [show ((19 : Int) + (i : Int)).toNat = 19 + i by omega]; exact hci)) ?_
  refine v_iload_n iX8_chill_35 rfl ?_
  refine v_icmp_ne (tgt := 42) iX8_chill_36 (by decide) (by omega) (fun h36 => ?_) (fun h36 => (by exfalso; omega))
  refine v_aload_n iX8_chill_42 rfl ?_
  refine c_V0 (Mc := mX8_keepPast) iX8_chill_43 lX8_220 kX8_keepPast (qX8_keepPast σ α u hu hu8) (by decide) rfl rfl rfl rfl (Nat.le_of_ble_eq_true rfl) ?_
  try simp only [Int.toNat_natCast]
  refine v_aload_n iX8_chill_46 rfl ?_
  refine v_getR iX8_chill_47 fX8_7 rfl rfl ?_
  refine v_bipush iX8_chill_50 (by decide) ?_
  refine v_iload_n iX8_chill_52 rfl ?_
  refine v_iadd iX8_chill_53 ?_
  refine v_iload_n iX8_chill_54 rfl ?_
  refine v_iastore iX8_chill_55 rfl (by omega) ?_
  rw [uA_eq, uA_uA, show ((19 : Int) + (i : Int)).toNat = 19 + i by omega]
  refine v_aload_n iX8_chill_56 rfl ?_
  refine c_V1 (Mc := mX8_tops) iX8_chill_57 lX8_172 kX8_tops (qX8_tops _ _ hR hW) (by decide) rfl rfl rfl rfl (Nat.le_of_ble_eq_true rfl) ?_
  try simp only [Int.toNat_natCast]
  refine c_S1 (Mc := mX8_ones) iX8_chill_60 lX8_225 kX8_ones (qX8_ones _ _ _ (by omega)) (by decide) rfl rfl (Nat.le_of_ble_eq_true rfl) ?_
  try simp only [Int.toNat_natCast]
  exact r_i iX8_chill_63 rfl (⟨cf_i (by rfl), rfl, rfl⟩)

set_option maxHeartbeats 4000000 in
set_option maxRecDepth 100000 in
theorem qX8_chill_3 (σ α : St) {n : Nat} (hn : σ 95 1 = (n : Int)) (hn10 : n ≤ 10) (i : Nat) (hi : i < n) (v : Int) (hv : InR v) (hv2 : v < 0 ∨ 9 < v) : CF 2 mX8_chill [vR 95, vI (i : Int), vI v] σ α (some (vI (-3))) (σ) (α) := by
  refine CG.of [some (vR 95), some (vI (i : Int)), some (vI v)] (by decide) (by simp [lvA]) rfl ?_
  refine v_aload_n iX8_chill_0 rfl ?_
  refine v_iload_n iX8_chill_1 rfl ?_
  refine c_V1 (Mc := mX8_isSection) iX8_chill_2 lX8_204 kX8_isSection (qX8_isSection σ α n i (by omega) hn hn10) (by decide) rfl rfl rfl rfl (Nat.le_of_ble_eq_true rfl) ?_
  try simp only [Int.toNat_natCast]
  refine v_bif_ne (tgt := 11) iX8_chill_5 (by decide) (fun h5 => ?_) (fun h5 => (by exfalso; simp at h5; omega))
  refine v_iload_n iX8_chill_11 rfl ?_
  refine v_i2l iX8_chill_12 (by omega) ?_
  refine v_lconst (z := 0) iX8_chill_13 rfl ?_
  refine v_ldc2 iX8_chill_14 gX8_223 ?_
  refine c_S1 (Mc := mX8_in) iX8_chill_17 lX8_62 kX8_in (qX8_in _ _ _ _ _ (by omega) (by decide) (by decide)) (by decide) rfl rfl (Nat.le_of_ble_eq_true rfl) ?_
  try simp only [Int.toNat_natCast]
  refine v_bif_ne (tgt := 26) iX8_chill_20 (by decide) (fun h20 => (by exfalso; simp at h20; omega)) (fun h20 => ?_)
  refine v_bipush iX8_chill_23 (by decide) ?_
  exact r_i iX8_chill_25 rfl (⟨cf_i (by rfl), rfl, rfl⟩)

set_option maxHeartbeats 4000000 in
set_option maxRecDepth 100000 in
theorem qX8_chill_4 (σ α : St) {n : Nat} (hn : σ 95 1 = (n : Int)) (hn10 : n ≤ 10) (i : Nat) (hi : i < n) (v : Int) (hv : 0 ≤ v ∧ v ≤ 9) (hne : α 96 (19 + i) = v) : CF 2 mX8_chill [vR 95, vI (i : Int), vI v] σ α (some (vI (-4))) (σ) (α) := by
  refine CG.of [some (vR 95), some (vI (i : Int)), some (vI v)] (by decide) (by simp [lvA]) rfl ?_
  refine v_aload_n iX8_chill_0 rfl ?_
  refine v_iload_n iX8_chill_1 rfl ?_
  refine c_V1 (Mc := mX8_isSection) iX8_chill_2 lX8_204 kX8_isSection (qX8_isSection σ α n i (by omega) hn hn10) (by decide) rfl rfl rfl rfl (Nat.le_of_ble_eq_true rfl) ?_
  try simp only [Int.toNat_natCast]
  refine v_bif_ne (tgt := 11) iX8_chill_5 (by decide) (fun h5 => ?_) (fun h5 => (by exfalso; simp at h5; omega))
  refine v_iload_n iX8_chill_11 rfl ?_
  refine v_i2l iX8_chill_12 (by omega) ?_
  refine v_lconst (z := 0) iX8_chill_13 rfl ?_
  refine v_ldc2 iX8_chill_14 gX8_223 ?_
  refine c_S1 (Mc := mX8_in) iX8_chill_17 lX8_62 kX8_in (qX8_in _ _ _ _ _ (by omega) (by decide) (by decide)) (by decide) rfl rfl (Nat.le_of_ble_eq_true rfl) ?_
  try simp only [Int.toNat_natCast]
  refine v_bif_ne (tgt := 26) iX8_chill_20 (by decide) (fun h20 => ?_) (fun h20 => (by exfalso; simp at h20; omega))
  refine v_aload_n iX8_chill_26 rfl ?_
  refine v_getR iX8_chill_27 fX8_7 rfl rfl ?_
  refine v_bipush iX8_chill_30 (by decide) ?_
  refine v_iload_n iX8_chill_32 rfl ?_
  refine v_iadd iX8_chill_33 ?_
  refine v_iaload iX8_chill_34 rfl (by omega) (by exact (show _ = v by rw [show ((19 : Int) + (i : Int)).toNat = 19 + i by omega]; exact hne)) ?_
  refine v_iload_n iX8_chill_35 rfl ?_
  refine v_icmp_ne (tgt := 42) iX8_chill_36 (by decide) (by omega) (fun h36 => (by exfalso; omega)) (fun h36 => ?_)
  refine v_bipush iX8_chill_39 (by decide) ?_
  exact r_i iX8_chill_41 rfl (⟨cf_i (by rfl), rfl, rfl⟩)

set_option maxHeartbeats 4000000 in
set_option maxRecDepth 100000 in
theorem qX8_chill_o (σ α : St) {n : Nat} (hn : σ 95 1 = (n : Int)) (hn10 : n ≤ 10) (i : Int) (hi : InR i) (hi2 : i < 0 ∨ (n : Int) ≤ i) (v : Int) : CF 2 mX8_chill [vR 95, vI i, vI v] σ α (some (vI (-2))) (σ) (α) := by
  refine CG.of [some (vR 95), some (vI i), some (vI v)] (by decide) (by simp [lvA]) rfl ?_
  refine v_aload_n iX8_chill_0 rfl ?_
  refine v_iload_n iX8_chill_1 rfl ?_
  refine c_V1 (Mc := mX8_isSection) iX8_chill_2 lX8_204 kX8_isSection (qX8_isSection σ α n i hi hn hn10) (by decide) rfl rfl rfl rfl (Nat.le_of_ble_eq_true rfl) ?_
  try simp only [Int.toNat_natCast]
  refine v_bif_ne (tgt := 11) iX8_chill_5 (by decide) (fun h5 => (by exfalso; simp at h5; omega)) (fun h5 => ?_)
  refine v_bipush iX8_chill_8 (by decide) ?_
  exact r_i iX8_chill_10 rfl (⟨cf_i (by rfl), rfl, rfl⟩)

set_option maxHeartbeats 4000000 in
set_option maxRecDepth 100000 in
theorem qX8_need_o (σ α : St) {n : Nat} (hn : σ 95 1 = (n : Int)) (hn10 : n ≤ 10) (i : Int) (hi : InR i) (hi2 : i < 0 ∨ (n : Int) ≤ i) (v : Int) : CF 4 mX8_need [vR 95, vI i, vI v] σ α (some (vI (-2))) (σ) (α) := by
  refine CG.of [some (vR 95), some (vI i), some (vI v), none] (by decide) (by simp [lvA]) rfl ?_
  refine v_aload_n iX8_need_0 rfl ?_
  refine v_iload_n iX8_need_1 rfl ?_
  refine c_V1 (Mc := mX8_isSection) iX8_need_2 lX8_204 kX8_isSection (qX8_isSection σ α n i hi hn hn10) (by decide) rfl rfl rfl rfl (Nat.le_of_ble_eq_true rfl) ?_
  try simp only [Int.toNat_natCast]
  refine v_bif_ne (tgt := 11) iX8_need_5 (by decide) (fun h5 => (by exfalso; simp at h5; omega)) (fun h5 => ?_)
  refine v_bipush iX8_need_8 (by decide) ?_
  exact r_i iX8_need_10 rfl (⟨cf_i (by rfl), rfl, rfl⟩)

set_option maxHeartbeats 4000000 in
set_option maxRecDepth 100000 in
theorem qX8_pass (σ α : St) {n : Nat} {V B N : Nat → Int} (hR : RV σ α n V B N) (hW : WF n V B N) (a b : Nat) (ha : a < n) (hb : b < n) (hab : a ≠ b) : CG 7 mX8_pass [vR 95, vI (a : Int), vI (b : Int)] σ α (fun r' s' a' => r' = some (vI (if ((clm V B N n 10 a).1 : Int) = ((clm V B N n 10 b).1 : Int) then -1 else passR V B N n ((clm V B N n 10 a).1 : Int) ((clm V B N n 10 b).1 : Int))) ∧ Sc σ s' ∧ a' = α) := by
  have hn10 := hW.1
  have c1 := clm_lt (V := V) (B := B) (N := N) ha
  have c2 := clm_lt (V := V) (B := B) (N := N) hb
  have s1 : Sc σ (uS σ 95 23 ((clm V B N n 10 a).2 : Int)) := ⟨_, rfl⟩
  have s2 := s1.put ((clm V B N n 10 b).2 : Int)
  refine CG.of [some (vR 95), some (vI (a : Int)), some (vI (b : Int)), none, none] (by decide) (by simp [lvA]) rfl ?_
  refine v_aload_n iX8_pass_0 rfl ?_
  refine v_iload_n iX8_pass_1 rfl ?_
  refine c_V1 (Mc := mX8_isSection) iX8_pass_2 lX8_204 kX8_isSection (qX8_isSection σ α n a (by omega) hR.1 hn10) (by decide) rfl rfl rfl rfl (Nat.le_of_ble_eq_true rfl) ?_
  try simp only [Int.toNat_natCast]
  refine v_bif_eq (tgt := 21) iX8_pass_5 (by decide) (fun h5 => (by exfalso; simp at h5; omega)) (fun h5 => ?_)
  refine v_aload_n iX8_pass_8 rfl ?_
  refine v_iload_n iX8_pass_9 rfl ?_
  refine c_V1 (Mc := mX8_isSection) iX8_pass_10 lX8_204 kX8_isSection (qX8_isSection σ α n b (by omega) hR.1 hn10) (by decide) rfl rfl rfl rfl (Nat.le_of_ble_eq_true rfl) ?_
  try simp only [Int.toNat_natCast]
  refine v_bif_eq (tgt := 21) iX8_pass_13 (by decide) (fun h13 => (by exfalso; simp at h13; omega)) (fun h13 => ?_)
  refine v_iload_n iX8_pass_16 rfl ?_
  refine v_iload_n iX8_pass_17 rfl ?_
  refine v_icmp_ne (tgt := 24) iX8_pass_18 (by decide) (by omega) (fun h18 => ?_) (fun h18 => (by exfalso; omega))
  refine v_aload_n iX8_pass_24 rfl ?_
  refine v_iload_n iX8_pass_25 rfl ?_
  refine c_V1 (Mc := mX8_topOf) iX8_pass_26 lX8_166 kX8_topOf (qX8_topOf σ α hR hW a (by omega)) (by decide) rfl rfl rfl rfl (Nat.le_of_ble_eq_true rfl) ?_
  try simp only [Int.toNat_natCast]
  refine v_is3 iX8_pass_29 ⟨rfl, rfl⟩ ?_
  refine v_aload_n iX8_pass_30 rfl ?_
  refine v_iload_n iX8_pass_31 rfl ?_
  refine c_V1 (Mc := mX8_topOf) iX8_pass_32 lX8_166 kX8_topOf (qX8_topOf _ α (hR.sc s1) hW b (by omega)) (by decide) rfl rfl rfl rfl (Nat.le_of_ble_eq_true rfl) ?_
  try simp only [Int.toNat_natCast]
  refine v_is4 iX8_pass_35 ⟨rfl, rfl⟩ ?_
  refine v_iload_n iX8_pass_37 rfl ?_
  refine v_iload iX8_pass_38 rfl ?_
  refine v_icmp_ne (tgt := 47) iX8_pass_40 (by decide) (by omega) (fun h40 => ?_) (fun h40 => ?_)
  · refine v_aload_n iX8_pass_47 rfl ?_
    refine v_iload_n iX8_pass_48 rfl ?_
    refine v_iload iX8_pass_49 rfl ?_
    refine c_VQ (Mc := mX8_passOf) iX8_pass_51 lX8_175 kX8_passOf (qX8_passOf _ α (hR.sc s2) hW _ _ (by omega) (by omega)) (by decide) rfl rfl rfl rfl (Nat.le_of_ble_eq_true rfl) ?_
    rintro σ2 a2 ⟨hs2, ha2⟩
    rw [ha2]
    try simp only [Int.toNat_natCast]
    exact r_i iX8_pass_54 rfl (by first | exact ⟨cf_i (by rw [if_pos h40]), s2, rfl⟩ | exact ⟨cf_i (by rw [if_neg h40]), s2.tr hs2, rfl⟩)
  · refine v_iconst iX8_pass_43 ?_
    refine v_goto (tgt := 54) iX8_pass_44 (by decide) ?_
    exact r_i iX8_pass_54 rfl (by first | exact ⟨cf_i (by rw [if_pos h40]), s2, rfl⟩ | exact ⟨cf_i (by rw [if_neg h40]), s2.tr hs2, rfl⟩)
