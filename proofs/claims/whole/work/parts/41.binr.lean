set_option maxHeartbeats 4000000 in
set_option maxRecDepth 100000 in
theorem qX8_isBin (σ α : St) (t : Int) (ht : InR t) : CF 1 mX8_isBin [vI t] σ α (some (vI (b2i (decide (0 ≤ t ∧ t ≤ 2))))) (σ) (α) := by
  refine CG.of [some (vI t)] (by decide) (by simp [lvA]) rfl ?_
  refine v_iload_n iX8_isBin_0 rfl ?_
  refine v_i2l iX8_isBin_1 (by omega) ?_
  refine v_lconst (z := 0) iX8_isBin_2 rfl ?_
  refine v_ldc2 iX8_isBin_3 gX8_228 ?_
  refine c_S1 (Mc := mX8_in) iX8_isBin_6 lX8_62 kX8_in (qX8_in _ _ _ _ _ ht (by decide) (by decide)) (by decide) rfl rfl (Nat.le_of_ble_eq_true rfl) ?_
  try simp only [Int.toNat_natCast]
  exact r_b iX8_isBin_9 rfl (by first | exact b2i_01 _ | decide | omega) (⟨cf_i (by rfl), rfl, rfl⟩)

set_option maxHeartbeats 4000000 in
set_option maxRecDepth 100000 in
theorem qX8_bin_o (σ α : St) (t : Int) (ht : InR t) (hto : t < 0 ∨ 3 ≤ t) (kk : Int) : CF 2 mX8_bin [vR 95, vI t, vI kk] σ α (some (vI (-2))) (σ) (α) := by
  refine CG.of [some (vR 95), some (vI t), some (vI kk)] (by decide) (by simp [lvA]) rfl ?_
  refine v_iload_n iX8_bin_0 rfl ?_
  refine c_S1 (Mc := mX8_isBin) iX8_bin_1 lX8_230 kX8_isBin (qX8_isBin σ α _ (by assumption)) (by decide) rfl rfl (Nat.le_of_ble_eq_true rfl) ?_
  try simp only [Int.toNat_natCast]
  refine v_bif_ne (tgt := 10) iX8_bin_4 (by decide) (fun h4 => (by exfalso; simp at h4; omega)) (fun h4 => ?_)
  refine v_bipush iX8_bin_7 (by decide) ?_
  exact r_i iX8_bin_9 rfl (⟨cf_i (by rfl), rfl, rfl⟩)

set_option maxHeartbeats 4000000 in
set_option maxRecDepth 100000 in
theorem qX8_addWhole_o (σ α : St) (t : Int) (ht : InR t) (hto : t < 0 ∨ 3 ≤ t) (v : Int) : CF 2 mX8_addWhole [vR 95, vI t, vI v] σ α (some (vI (-2))) (σ) (α) := by
  refine CG.of [some (vR 95), some (vI t), some (vI v)] (by decide) (by simp [lvA]) rfl ?_
  refine v_iload_n iX8_addWhole_0 rfl ?_
  refine c_S1 (Mc := mX8_isBin) iX8_addWhole_1 lX8_230 kX8_isBin (qX8_isBin σ α _ (by assumption)) (by decide) rfl rfl (Nat.le_of_ble_eq_true rfl) ?_
  try simp only [Int.toNat_natCast]
  refine v_bif_ne (tgt := 12) iX8_addWhole_4 (by decide) (fun h4 => (by exfalso; simp at h4; omega)) (fun h4 => ?_)
  refine v_bipush iX8_addWhole_7 (by decide) ?_
  refine v_goto (tgt := 42) iX8_addWhole_9 (by decide) ?_
  exact r_i iX8_addWhole_42 rfl (⟨cf_i (by rfl), rfl, rfl⟩)

set_option maxHeartbeats 4000000 in
set_option maxRecDepth 100000 in
theorem qX8_addPair_o (σ α : St) (t : Int) (ht : InR t) (hto : t < 0 ∨ 3 ≤ t) (a b : Int) : CF 2 mX8_addPair [vR 95, vI t, vI a, vI b] σ α (some (vI (-2))) (σ) (α) := by
  refine CG.of [some (vR 95), some (vI t), some (vI a), some (vI b)] (by decide) (by simp [lvA]) rfl ?_
  refine v_iload_n iX8_addPair_0 rfl ?_
  refine c_S1 (Mc := mX8_isBin) iX8_addPair_1 lX8_230 kX8_isBin (qX8_isBin σ α _ (by assumption)) (by decide) rfl rfl (Nat.le_of_ble_eq_true rfl) ?_
  try simp only [Int.toNat_natCast]
  refine v_bif_ne (tgt := 12) iX8_addPair_4 (by decide) (fun h4 => (by exfalso; simp at h4; omega)) (fun h4 => ?_)
  refine v_bipush iX8_addPair_7 (by decide) ?_
  refine v_goto (tgt := 53) iX8_addPair_9 (by decide) ?_
  exact r_i iX8_addPair_53 rfl (⟨cf_i (by rfl), rfl, rfl⟩)

set_option maxHeartbeats 4000000 in
set_option maxRecDepth 100000 in
theorem qX8_find_o (σ α : St) (t : Int) (ht : InR t) (hto : t < 0 ∨ 3 ≤ t) (w : Int) : CF 2 mX8_find [vR 95, vI t, vI w] σ α (some (vI (-2))) (σ) (α) := by
  refine CG.of [some (vR 95), some (vI t), some (vI w), none, none] (by decide) (by simp [lvA]) rfl ?_
  refine v_iload_n iX8_find_0 rfl ?_
  refine c_S1 (Mc := mX8_isBin) iX8_find_1 lX8_230 kX8_isBin (qX8_isBin σ α _ (by assumption)) (by decide) rfl rfl (Nat.le_of_ble_eq_true rfl) ?_
  try simp only [Int.toNat_natCast]
  refine v_bif_ne (tgt := 10) iX8_find_4 (by decide) (fun h4 => (by exfalso; simp at h4; omega)) (fun h4 => ?_)
  refine v_bipush iX8_find_7 (by decide) ?_
  exact r_i iX8_find_9 rfl (⟨cf_i (by rfl), rfl, rfl⟩)

set_option maxHeartbeats 4000000 in
set_option maxRecDepth 100000 in
theorem qX8_pop_o (σ α : St) (t : Int) (ht : InR t) (hto : t < 0 ∨ 3 ≤ t) : CF 2 mX8_pop [vR 95, vI t] σ α (some (vI (-2))) (σ) (α) := by
  refine CG.of [some (vR 95), some (vI t)] (by decide) (by simp [lvA]) rfl ?_
  refine v_iload_n iX8_pop_0 rfl ?_
  refine c_S1 (Mc := mX8_isBin) iX8_pop_1 lX8_230 kX8_isBin (qX8_isBin σ α _ (by assumption)) (by decide) rfl rfl (Nat.le_of_ble_eq_true rfl) ?_
  try simp only [Int.toNat_natCast]
  refine v_bif_ne (tgt := 10) iX8_pop_4 (by decide) (fun h4 => (by exfalso; simp at h4; omega)) (fun h4 => ?_)
  refine v_bipush iX8_pop_7 (by decide) ?_
  exact r_i iX8_pop_9 rfl (⟨cf_i (by rfl), rfl, rfl⟩)

set_option maxHeartbeats 4000000 in
set_option maxRecDepth 100000 in
theorem qX8_sort_o (σ α : St) (t : Int) (ht : InR t) (hto : t < 0 ∨ 3 ≤ t) : CF 2 mX8_sort [vR 95, vI t] σ α (some (vI (-2))) (σ) (α) := by
  refine CG.of [some (vR 95), some (vI t), none, none, none] (by decide) (by simp [lvA]) rfl ?_
  refine v_iload_n iX8_sort_0 rfl ?_
  refine c_S1 (Mc := mX8_isBin) iX8_sort_1 lX8_230 kX8_isBin (qX8_isBin σ α _ (by assumption)) (by decide) rfl rfl (Nat.le_of_ble_eq_true rfl) ?_
  try simp only [Int.toNat_natCast]
  refine v_bif_ne (tgt := 10) iX8_sort_4 (by decide) (fun h4 => (by exfalso; simp at h4; omega)) (fun h4 => ?_)
  refine v_bipush iX8_sort_7 (by decide) ?_
  exact r_i iX8_sort_9 rfl (⟨cf_i (by rfl), rfl, rfl⟩)

set_option maxHeartbeats 4000000 in
set_option maxRecDepth 100000 in
theorem qX8_sum_o (σ α : St) (t : Int) (ht : InR t) (hto : t < 0 ∨ 3 ≤ t) : CF 2 mX8_sum [vR 95, vI t] σ α (some (vI (-2))) (σ) (α) := by
  refine CG.of [some (vR 95), some (vI t), none, none] (by decide) (by simp [lvA]) rfl ?_
  refine v_iload_n iX8_sum_0 rfl ?_
  refine c_S1 (Mc := mX8_isBin) iX8_sum_1 lX8_230 kX8_isBin (qX8_isBin σ α _ (by assumption)) (by decide) rfl rfl (Nat.le_of_ble_eq_true rfl) ?_
  try simp only [Int.toNat_natCast]
  refine v_bif_ne (tgt := 10) iX8_sum_4 (by decide) (fun h4 => (by exfalso; simp at h4; omega)) (fun h4 => ?_)
  refine v_bipush iX8_sum_7 (by decide) ?_
  exact r_i iX8_sum_9 rfl (⟨cf_i (by rfl), rfl, rfl⟩)

set_option maxHeartbeats 4000000 in
set_option maxRecDepth 100000 in
theorem qX8_drop_o (σ α : St) (t : Int) (ht : InR t) (hto : t < 0 ∨ 3 ≤ t) : CF 2 mX8_drop [vR 95, vI t] σ α (some (vI (-2))) (σ) (α) := by
  refine CG.of [some (vR 95), some (vI t), none] (by decide) (by simp [lvA]) rfl ?_
  refine v_iload_n iX8_drop_0 rfl ?_
  refine c_S1 (Mc := mX8_isBin) iX8_drop_1 lX8_230 kX8_isBin (qX8_isBin σ α _ (by assumption)) (by decide) rfl rfl (Nat.le_of_ble_eq_true rfl) ?_
  try simp only [Int.toNat_natCast]
  refine v_bif_ne (tgt := 10) iX8_drop_4 (by decide) (fun h4 => (by exfalso; simp at h4; omega)) (fun h4 => ?_)
  refine v_bipush iX8_drop_7 (by decide) ?_
  exact r_i iX8_drop_9 rfl (⟨cf_i (by rfl), rfl, rfl⟩)

set_option maxHeartbeats 4000000 in
set_option maxRecDepth 100000 in
theorem qX8_bin (σ α : St) (k : Nat) (hk : k < 3) {z kd : Int} {f : Nat → Int} (hB : RB α k z kd f) (kk : Int) (hkk : InR kk) : CG 2 mX8_bin [vR 95, vI (k : Int), vI kk] σ α (fun r' s' a' => r' = some (vI (if kk = 0 ∨ kk = 1 then 0 else -3)) ∧ s' = σ ∧ RB a' k (if kk = 0 ∨ kk = 1 then 0 else z) (if kk = 0 ∨ kk = 1 then kk else kd) (f) ∧ FrR k α a') := by
  obtain ⟨hz, hzr, hkd, hkr, hf⟩ := id hB
  refine CG.of [some (vR 95), some (vI (k : Int)), some (vI kk)] (by decide) (by simp [lvA]) rfl ?_
  refine v_iload_n iX8_bin_0 rfl ?_
  refine c_S1 (Mc := mX8_isBin) iX8_bin_1 lX8_230 kX8_isBin (qX8_isBin σ α _ (by omega)) (by decide) rfl rfl (Nat.le_of_ble_eq_true rfl) ?_
  try simp only [Int.toNat_natCast]
  refine v_bif_ne (tgt := 10) iX8_bin_4 (by decide) (fun h4 => ?_) (fun h4 => (by exfalso; simp at h4; omega))
  refine v_iload_n iX8_bin_10 rfl ?_
  refine v_i2l iX8_bin_11 (by omega) ?_
  refine v_lconst (z := 0) iX8_bin_12 rfl ?_
  refine v_lconst (z := 1) iX8_bin_13 rfl ?_
  refine c_S1 (Mc := mX8_in) iX8_bin_14 lX8_62 kX8_in (qX8_in _ _ _ _ _ hkk (by decide) (by decide)) (by decide) rfl rfl (Nat.le_of_ble_eq_true rfl) ?_
  try simp only [Int.toNat_natCast]
  refine v_bif_ne (tgt := 23) iX8_bin_17 (by decide) (fun h17 => ?_) (fun h17 => ?_)
  · try simp only [Int.toNat_natCast] at h17
    simp only [decide_eq_true_eq] at h17
    refine v_aload_n iX8_bin_23 rfl ?_
    refine v_getR iX8_bin_24 fX8_39 rfl rfl ?_
    refine v_iload_n iX8_bin_27 rfl ?_
    refine v_iconst iX8_bin_28 ?_
    refine v_iastore iX8_bin_29 rfl (by omega) ?_
    refine v_aload_n iX8_bin_30 rfl ?_
    refine v_getR iX8_bin_31 fX8_42 rfl rfl ?_
    refine v_iload_n iX8_bin_34 rfl ?_
    refine v_iload_n iX8_bin_35 rfl ?_
    refine v_iastore iX8_bin_36 rfl (by omega) ?_
    refine v_iconst iX8_bin_37 ?_
    simp only [Int.toNat_natCast]
    exact r_i iX8_bin_38 rfl (⟨cf_i (by rw [if_pos (by omega)]), rfl, by rw [if_pos (by omega), if_pos (by omega)]; exact (hB.sz (by omega)).kd (by omega), ((FrR.rf _ _).sz _).kd _⟩)
  · try simp only [Int.toNat_natCast] at h17
    simp only [decide_eq_false_iff_not] at h17
    refine v_bipush iX8_bin_20 (by decide) ?_
    exact r_i iX8_bin_22 rfl (⟨cf_i (by rw [if_neg (by omega)]), rfl, by rw [if_neg (by omega), if_neg (by omega)]; exact hB, FrR.rf _ _⟩)

set_option maxHeartbeats 4000000 in
set_option maxRecDepth 100000 in
theorem qX8_add (σ α : St) (k : Nat) (hk : k < 3) {z kd : Int} {f : Nat → Int} (hB : RB α k z kd f) (kk x : Int) (hkk : kk = 0 ∨ kk = 1) (hx : 0 ≤ x ∧ x ≤ 30000) : CG 0 mX8_add [vR 95, vI (k : Int), vI kk, vI x] σ α (fun r' s' a' => r' = some (vI (abR z kd kk)) ∧ s' = σ ∧ RB a' k (abZ z kd kk) (kd) (abF z kd kk f x) ∧ FrR k α a') := by
  obtain ⟨hz, hzr, hkd, hkr, hf⟩ := id hB
  refine CG.of [some (vR 95), some (vI (k : Int)), some (vI kk), some (vI x)] (by decide) (by simp [lvA]) rfl ?_
  refine v_aload_n iX8_add_0 rfl ?_
  refine v_getR iX8_add_1 fX8_39 rfl rfl ?_
  refine v_iload_n iX8_add_4 rfl ?_
  refine v_iaload iX8_add_5 rfl (by omega) (by exact hz) ?_
  refine v_if_ge (tgt := 12) iX8_add_6 (by decide) (by omega) (fun h6 => ?_) (fun h6 => ?_)
  · refine v_aload_n iX8_add_12 rfl ?_
    refine v_getR iX8_add_13 fX8_42 rfl rfl ?_
    refine v_iload_n iX8_add_16 rfl ?_
    refine v_iaload iX8_add_17 rfl (by omega) (by exact hkd) ?_
    refine v_iload_n iX8_add_18 rfl ?_
    refine v_icmp_eq (tgt := 25) iX8_add_19 (by decide) (by omega) (fun h19 => ?_) (fun h19 => ?_)
    · refine v_aload_n iX8_add_25 rfl ?_
      refine v_getR iX8_add_26 fX8_39 rfl rfl ?_
      refine v_iload_n iX8_add_29 rfl ?_
      refine v_iaload iX8_add_30 rfl (by omega) (by exact hz) ?_
      refine v_bipush iX8_add_31 (by decide) ?_
      refine v_icmp_ne (tgt := 39) iX8_add_33 (by decide) (by omega) (fun h33 => ?_) (fun h33 => ?_)
      · refine v_aload_n iX8_add_39 rfl ?_
        refine v_getR iX8_add_40 fX8_45 rfl rfl ?_
        refine v_bipush iX8_add_43 (by decide) ?_
        refine v_iload_n iX8_add_45 rfl ?_
        refine v_imul iX8_add_46 ?_
        refine v_aload_n iX8_add_47 rfl ?_
        refine v_getR iX8_add_48 fX8_39 rfl rfl ?_
        refine v_iload_n iX8_add_51 rfl ?_
        refine v_iaload iX8_add_52 rfl (by omega) (by exact hz) ?_
        refine v_iadd iX8_add_53 ?_
        refine v_iload_n iX8_add_54 rfl ?_
        refine v_iastore iX8_add_55 rfl (by omega) ?_
        refine v_aload_n iX8_add_56 rfl ?_
        refine v_getR iX8_add_57 fX8_39 rfl rfl ?_
        refine v_iload_n iX8_add_60 rfl ?_
        refine v_dup2 iX8_add_61 ⟨(by intro z h; cases h), (by intro z h; cases h)⟩ ?_
        refine v_iaload iX8_add_62 rfl (by omega) (by exact hz) ?_
        refine v_iconst iX8_add_63 ?_
        refine v_iadd iX8_add_64 ?_
        refine v_iastore iX8_add_65 rfl (by omega) ?_
        rw [show (8 * (k : Int) + z).toNat = 8 * k + z.toNat by omega]
        simp only [Int.toNat_natCast]
        refine v_aload_n iX8_add_66 rfl ?_
        refine v_getR iX8_add_67 fX8_39 rfl rfl ?_
        refine v_iload_n iX8_add_70 rfl ?_
        refine v_iaload iX8_add_71 rfl (by omega) (by exact (show _ = z + 1 by simp [uA, uF])) ?_
        exact r_i iX8_add_72 rfl (⟨cf_i (by rw [abR, if_neg (by omega), if_pos h19, if_neg h33]), rfl, by rw [abZ, abF, if_pos (by omega), if_pos (by omega)]; exact (hB.th (by omega) hx).sz (by omega), ((FrR.rf _ _).th (by omega) _).sz _⟩)
      · refine v_bipush iX8_add_36 (by decide) ?_
        exact r_i iX8_add_38 rfl (⟨cf_i (by rw [abR, if_neg (by omega), if_pos h19, if_pos h33]), rfl, by rw [abZ, abF, if_neg (by omega), if_neg (by omega)]; exact hB, FrR.rf _ _⟩)
    · refine v_bipush iX8_add_22 (by decide) ?_
      exact r_i iX8_add_24 rfl (⟨cf_i (by rw [abR, if_neg (by omega), if_neg h19]), rfl, by rw [abZ, abF, if_neg (by omega), if_neg (by omega)]; exact hB, FrR.rf _ _⟩)
  · refine v_bipush iX8_add_9 (by decide) ?_
    exact r_i iX8_add_11 rfl (⟨cf_i (by rw [abR, if_pos (by omega)]), rfl, by rw [abZ, abF, if_neg (by omega), if_neg (by omega)]; exact hB, FrR.rf _ _⟩)

set_option maxHeartbeats 4000000 in
set_option maxRecDepth 100000 in
theorem qX8_addWhole (σ α : St) (k : Nat) (hk : k < 3) {z kd : Int} {f : Nat → Int} (hB : RB α k z kd f) (v : Int) (hv : InR v) : CG 2 mX8_addWhole [vR 95, vI (k : Int), vI v] σ α (fun r' s' a' => r' = some (vI (if -999 ≤ v ∧ v ≤ 999 then abR z kd 0 else -3)) ∧ s' = σ ∧ RB a' k (if -999 ≤ v ∧ v ≤ 999 then abZ z kd 0 else z) (kd) (if -999 ≤ v ∧ v ≤ 999 then abF z kd 0 f (v + 20000) else f) ∧ FrR k α a') := by
  obtain ⟨hz, hzr, hkd, hkr, hf⟩ := id hB
  refine CG.of [some (vR 95), some (vI (k : Int)), some (vI v)] (by decide) (by simp [lvA]) rfl ?_
  refine v_iload_n iX8_addWhole_0 rfl ?_
  refine c_S1 (Mc := mX8_isBin) iX8_addWhole_1 lX8_230 kX8_isBin (qX8_isBin σ α _ (by omega)) (by decide) rfl rfl (Nat.le_of_ble_eq_true rfl) ?_
  try simp only [Int.toNat_natCast]
  refine v_bif_ne (tgt := 12) iX8_addWhole_4 (by decide) (fun h4 => ?_) (fun h4 => (by exfalso; simp at h4; omega))
  refine v_iload_n iX8_addWhole_12 rfl ?_
  refine v_i2l iX8_addWhole_13 (by omega) ?_
  refine v_ldc2 iX8_addWhole_14 gX8_233 ?_
  refine v_ldc2 iX8_addWhole_17 gX8_235 ?_
  refine c_S1 (Mc := mX8_in) iX8_addWhole_20 lX8_62 kX8_in (qX8_in _ _ _ _ _ hv (by decide) (by decide)) (by decide) rfl rfl (Nat.le_of_ble_eq_true rfl) ?_
  try simp only [Int.toNat_natCast]
  refine v_bif_eq (tgt := 40) iX8_addWhole_23 (by decide) (fun h23 => ?_) (fun h23 => ?_)
  · try simp only [Int.toNat_natCast] at h23
    simp only [decide_eq_false_iff_not] at h23
    refine v_bipush iX8_addWhole_40 (by decide) ?_
    exact r_i iX8_addWhole_42 rfl (by first | exact ⟨cf_i (by rw [if_pos h23]), rfl, by rw [if_pos h23, if_pos h23]; exact hr1, hf1⟩ | exact ⟨cf_i (by rw [if_neg h23]), rfl, by rw [if_neg h23, if_neg h23]; exact hB, FrR.rf _ _⟩)
  · try simp only [Int.toNat_natCast] at h23
    simp only [decide_eq_true_eq] at h23
    refine v_aload_n iX8_addWhole_26 rfl ?_
    refine v_iload_n iX8_addWhole_27 rfl ?_
    refine v_iconst iX8_addWhole_28 ?_
    refine v_iload_n iX8_addWhole_29 rfl ?_
    refine v_sipush iX8_addWhole_30 (by decide) ?_
    refine v_iadd iX8_addWhole_33 ?_
    refine c_VQ (Mc := mX8_add) iX8_addWhole_34 lX8_237 kX8_add (qX8_add σ α k hk hB 0 (v + 20000) (by omega) (by omega)) (by decide) rfl rfl rfl rfl (Nat.le_of_ble_eq_true rfl) ?_
    rintro s1 a1 ⟨hs1, hr1, hf1⟩
    subst hs1
    try simp only [Int.toNat_natCast]
    refine v_goto (tgt := 42) iX8_addWhole_37 (by decide) ?_
    exact r_i iX8_addWhole_42 rfl (by first | exact ⟨cf_i (by rw [if_pos h23]), rfl, by rw [if_pos h23, if_pos h23]; exact hr1, hf1⟩ | exact ⟨cf_i (by rw [if_neg h23]), rfl, by rw [if_neg h23, if_neg h23]; exact hB, FrR.rf _ _⟩)

set_option maxHeartbeats 4000000 in
set_option maxRecDepth 100000 in
theorem qX8_addPair (σ α : St) (k : Nat) (hk : k < 3) {z kd : Int} {f : Nat → Int} (hB : RB α k z kd f) (a b : Int) (ha : InR a) (hb : InR b) : CG 2 mX8_addPair [vR 95, vI (k : Int), vI a, vI b] σ α (fun r' s' a' => r' = some (vI (if (0 ≤ a ∧ a ≤ 99) ∧ 0 ≤ b ∧ b ≤ 99 then abR z kd 1 else -3)) ∧ s' = σ ∧ RB a' k (if (0 ≤ a ∧ a ≤ 99) ∧ 0 ≤ b ∧ b ≤ 99 then abZ z kd 1 else z) (kd) (if (0 ≤ a ∧ a ≤ 99) ∧ 0 ≤ b ∧ b ≤ 99 then abF z kd 1 f (a * 100 + b) else f) ∧ FrR k α a') := by
  obtain ⟨hz, hzr, hkd, hkr, hf⟩ := id hB
  refine CG.of [some (vR 95), some (vI (k : Int)), some (vI a), some (vI b)] (by decide) (by simp [lvA]) rfl ?_
  refine v_iload_n iX8_addPair_0 rfl ?_
  refine c_S1 (Mc := mX8_isBin) iX8_addPair_1 lX8_230 kX8_isBin (qX8_isBin σ α _ (by omega)) (by decide) rfl rfl (Nat.le_of_ble_eq_true rfl) ?_
  try simp only [Int.toNat_natCast]
  refine v_bif_ne (tgt := 12) iX8_addPair_4 (by decide) (fun h4 => ?_) (fun h4 => (by exfalso; simp at h4; omega))
  refine v_iload_n iX8_addPair_12 rfl ?_
  refine v_i2l iX8_addPair_13 (by omega) ?_
  refine v_lconst (z := 0) iX8_addPair_14 rfl ?_
  refine v_ldc2 iX8_addPair_15 gX8_218 ?_
  refine c_S1 (Mc := mX8_in) iX8_addPair_18 lX8_62 kX8_in (qX8_in _ _ _ _ _ ha (by decide) (by decide)) (by decide) rfl rfl (Nat.le_of_ble_eq_true rfl) ?_
  try simp only [Int.toNat_natCast]
  refine v_bif_eq (tgt := 51) iX8_addPair_21 (by decide) (fun h21 => ?_) (fun h21 => ?_)
  · try simp only [Int.toNat_natCast] at h21
    (try simp only [decide_eq_false_iff_not] at h21)
    (try simp only [decide_eq_false_iff_not] at h33)
    refine v_bipush iX8_addPair_51 (by decide) ?_
    exact r_i iX8_addPair_53 rfl (by first | exact ⟨cf_i (by rw [if_pos ⟨h21, h33⟩]), rfl, by rw [if_pos ⟨h21, h33⟩, if_pos ⟨h21, h33⟩, Int.mul_comm a 100]; exact hr1, hf1⟩ | exact ⟨cf_i (by rw [if_neg (by omega)]), rfl, by rw [if_neg (by omega), if_neg (by omega)]; exact hB, FrR.rf _ _⟩)
  · try simp only [Int.toNat_natCast] at h21
    simp only [decide_eq_true_eq] at h21
    refine v_iload_n iX8_addPair_24 rfl ?_
    refine v_i2l iX8_addPair_25 (by omega) ?_
    refine v_lconst (z := 0) iX8_addPair_26 rfl ?_
    refine v_ldc2 iX8_addPair_27 gX8_218 ?_
    refine c_S1 (Mc := mX8_in) iX8_addPair_30 lX8_62 kX8_in (qX8_in _ _ _ _ _ hb (by decide) (by decide)) (by decide) rfl rfl (Nat.le_of_ble_eq_true rfl) ?_
    try simp only [Int.toNat_natCast]
    refine v_bif_eq (tgt := 51) iX8_addPair_33 (by decide) (fun h33 => ?_) (fun h33 => ?_)
    · try simp only [Int.toNat_natCast] at h33
      (try simp only [decide_eq_false_iff_not] at h21)
      (try simp only [decide_eq_false_iff_not] at h33)
      refine v_bipush iX8_addPair_51 (by decide) ?_
      exact r_i iX8_addPair_53 rfl (by first | exact ⟨cf_i (by rw [if_pos ⟨h21, h33⟩]), rfl, by rw [if_pos ⟨h21, h33⟩, if_pos ⟨h21, h33⟩, Int.mul_comm a 100]; exact hr1, hf1⟩ | exact ⟨cf_i (by rw [if_neg (by omega)]), rfl, by rw [if_neg (by omega), if_neg (by omega)]; exact hB, FrR.rf _ _⟩)
    · try simp only [Int.toNat_natCast] at h33
      simp only [decide_eq_true_eq] at h33
      refine v_aload_n iX8_addPair_36 rfl ?_
      refine v_iload_n iX8_addPair_37 rfl ?_
      refine v_iconst iX8_addPair_38 ?_
      refine v_bipush iX8_addPair_39 (by decide) ?_
      refine v_iload_n iX8_addPair_41 rfl ?_
      refine v_imul iX8_addPair_42 ?_
      refine v_iload_n iX8_addPair_43 rfl ?_
      refine v_iadd iX8_addPair_44 ?_
      refine c_VQ (Mc := mX8_add) iX8_addPair_45 lX8_237 kX8_add (qX8_add σ α k hk hB 1 (100 * a + b) (by omega) (by omega)) (by decide) rfl rfl rfl rfl (Nat.le_of_ble_eq_true rfl) ?_
      rintro s1 a1 ⟨hs1, hr1, hf1⟩
      subst hs1
      try simp only [Int.toNat_natCast]
      refine v_goto (tgt := 53) iX8_addPair_48 (by decide) ?_
      exact r_i iX8_addPair_53 rfl (by first | exact ⟨cf_i (by rw [if_pos ⟨h21, h33⟩]), rfl, by rw [if_pos ⟨h21, h33⟩, if_pos ⟨h21, h33⟩, Int.mul_comm a 100]; exact hr1, hf1⟩ | exact ⟨cf_i (by rw [if_neg (by omega)]), rfl, by rw [if_neg (by omega), if_neg (by omega)]; exact hB, FrR.rf _ _⟩)

set_option maxHeartbeats 4000000 in
set_option maxRecDepth 100000 in
theorem qX8_pop (σ α : St) (k : Nat) (hk : k < 3) {z kd : Int} {f : Nat → Int} (hB : RB α k z kd f) : CG 2 mX8_pop [vR 95, vI (k : Int)] σ α (fun r' s' a' => r' = some (vI (if z < 0 then -11 else if z = 0 then -13 else f (z - 1).toNat)) ∧ s' = σ ∧ RB a' k (if z ≤ 0 then z else z - 1) (kd) (f) ∧ FrR k α a') := by
  obtain ⟨hz, hzr, hkd, hkr, hf⟩ := id hB
  refine CG.of [some (vR 95), some (vI (k : Int))] (by decide) (by simp [lvA]) rfl ?_
  refine v_iload_n iX8_pop_0 rfl ?_
  refine c_S1 (Mc := mX8_isBin) iX8_pop_1 lX8_230 kX8_isBin (qX8_isBin σ α _ (by omega)) (by decide) rfl rfl (Nat.le_of_ble_eq_true rfl) ?_
  try simp only [Int.toNat_natCast]
  refine v_bif_ne (tgt := 10) iX8_pop_4 (by decide) (fun h4 => ?_) (fun h4 => (by exfalso; simp at h4; omega))
  refine v_aload_n iX8_pop_10 rfl ?_
  refine v_getR iX8_pop_11 fX8_39 rfl rfl ?_
  refine v_iload_n iX8_pop_14 rfl ?_
  refine v_iaload iX8_pop_15 rfl (by omega) (by exact hz) ?_
  refine v_iconst iX8_pop_16 ?_
  refine v_icmp_ge (tgt := 37) iX8_pop_17 (by decide) (by omega) (fun h17 => ?_) (fun h17 => ?_)
  · refine v_aload_n iX8_pop_37 rfl ?_
    refine v_getR iX8_pop_38 fX8_39 rfl rfl ?_
    refine v_iload_n iX8_pop_41 rfl ?_
    refine v_dup2 iX8_pop_42 ⟨(by intro z h; cases h), (by intro z h; cases h)⟩ ?_
    refine v_iaload iX8_pop_43 rfl (by omega) (by exact hz) ?_
    refine v_iconst iX8_pop_44 ?_
    refine v_isub iX8_pop_45 ?_
    refine v_iastore iX8_pop_46 rfl (by omega) ?_
    refine v_aload_n iX8_pop_47 rfl ?_
    refine v_getR iX8_pop_48 fX8_45 rfl rfl ?_
    refine v_bipush iX8_pop_51 (by decide) ?_
    refine v_iload_n iX8_pop_53 rfl ?_
    refine v_imul iX8_pop_54 ?_
    refine v_aload_n iX8_pop_55 rfl ?_
    refine v_getR iX8_pop_56 fX8_39 rfl rfl ?_
    refine v_iload_n iX8_pop_59 rfl ?_
    refine v_iaload iX8_pop_60 rfl (by omega) (by exact (show _ = z - 1 by simp [uA, uF])) ?_
    refine v_iadd iX8_pop_61 ?_
    refine v_iaload iX8_pop_62 rfl (by omega) (by exact (show _ = f (z - 1).toNat by rw [uA_ne _ _ (by decide), show (8 * (k : Int) + (z - 1)).toNat = 8 * k + (z - 1).toNat by omega]; exact (hf _ (by omega)).1)) ?_
    simp only [Int.toNat_natCast]
    exact r_i iX8_pop_63 rfl (⟨cf_i (by rw [if_neg (by omega), if_neg (by omega)]), rfl, by rw [if_neg (by omega)]; exact hB.sz (by omega), (FrR.rf _ _).sz _⟩)
  · refine v_aload_n iX8_pop_20 rfl ?_
    refine v_getR iX8_pop_21 fX8_39 rfl rfl ?_
    refine v_iload_n iX8_pop_24 rfl ?_
    refine v_iaload iX8_pop_25 rfl (by omega) (by exact hz) ?_
    refine v_if_ge (tgt := 34) iX8_pop_26 (by decide) (by omega) (fun h26 => ?_) (fun h26 => ?_)
    · refine v_bipush iX8_pop_34 (by decide) ?_
      exact r_i iX8_pop_36 rfl (by first | exact ⟨cf_i (by rw [if_pos (by omega)]), rfl, by rw [if_pos (by omega)]; exact hB, FrR.rf _ _⟩ | exact ⟨cf_i (by rw [if_neg (by omega), if_pos (by omega)]), rfl, by rw [if_pos (by omega)]; exact hB, FrR.rf _ _⟩)
    · refine v_bipush iX8_pop_29 (by decide) ?_
      refine v_goto (tgt := 36) iX8_pop_31 (by decide) ?_
      exact r_i iX8_pop_36 rfl (by first | exact ⟨cf_i (by rw [if_pos (by omega)]), rfl, by rw [if_pos (by omega)]; exact hB, FrR.rf _ _⟩ | exact ⟨cf_i (by rw [if_neg (by omega), if_pos (by omega)]), rfl, by rw [if_pos (by omega)]; exact hB, FrR.rf _ _⟩)

set_option maxHeartbeats 4000000 in
set_option maxRecDepth 100000 in
theorem qX8_drop (σ α : St) (k : Nat) (hk : k < 3) {z kd : Int} {f : Nat → Int} (hB : RB α k z kd f) : CG 2 mX8_drop [vR 95, vI (k : Int)] σ α (fun r' s' a' => r' = some (vI (if z < 0 then -11 else z)) ∧ s' = σ ∧ RB a' k (-1) (kd) (f) ∧ FrR k α a') := by
  obtain ⟨hz, hzr, hkd, hkr, hf⟩ := id hB
  refine CG.of [some (vR 95), some (vI (k : Int)), none] (by decide) (by simp [lvA]) rfl ?_
  refine v_iload_n iX8_drop_0 rfl ?_
  refine c_S1 (Mc := mX8_isBin) iX8_drop_1 lX8_230 kX8_isBin (qX8_isBin σ α _ (by omega)) (by decide) rfl rfl (Nat.le_of_ble_eq_true rfl) ?_
  try simp only [Int.toNat_natCast]
  refine v_bif_ne (tgt := 10) iX8_drop_4 (by decide) (fun h4 => ?_) (fun h4 => (by exfalso; simp at h4; omega))
  refine v_aload_n iX8_drop_10 rfl ?_
  refine v_getR iX8_drop_11 fX8_39 rfl rfl ?_
  refine v_iload_n iX8_drop_14 rfl ?_
  refine v_iaload iX8_drop_15 rfl (by omega) (by exact hz) ?_
  refine v_is2 iX8_drop_16 ⟨rfl, rfl⟩ ?_
  refine v_aload_n iX8_drop_17 rfl ?_
  refine v_getR iX8_drop_18 fX8_39 rfl rfl ?_
  refine v_iload_n iX8_drop_21 rfl ?_
  refine v_iconst iX8_drop_22 ?_
  refine v_iastore iX8_drop_23 rfl (by omega) ?_
  refine v_iload_n iX8_drop_24 rfl ?_
  refine v_if_ge (tgt := 33) iX8_drop_25 (by decide) (by omega) (fun h25 => ?_) (fun h25 => ?_)
  · refine v_iload_n iX8_drop_33 rfl ?_
    simp only [Int.toNat_natCast]
    exact r_i iX8_drop_34 rfl (by first | exact ⟨cf_i (by rw [if_neg (by omega)]), rfl, hB.sz (by omega), (FrR.rf _ _).sz _⟩ | exact ⟨cf_i (by rw [if_pos (by omega)]), rfl, hB.sz (by omega), (FrR.rf _ _).sz _⟩)
  · refine v_bipush iX8_drop_28 (by decide) ?_
    refine v_goto (tgt := 34) iX8_drop_30 (by decide) ?_
    simp only [Int.toNat_natCast]
    exact r_i iX8_drop_34 rfl (by first | exact ⟨cf_i (by rw [if_neg (by omega)]), rfl, hB.sz (by omega), (FrR.rf _ _).sz _⟩ | exact ⟨cf_i (by rw [if_pos (by omega)]), rfl, hB.sz (by omega), (FrR.rf _ _).sz _⟩)

set_option maxHeartbeats 4000000 in
set_option maxRecDepth 100000 in
theorem qX8_sum (σ α : St) (k : Nat) (hk : k < 3) {z kd : Int} {f : Nat → Int} (hB : RB α k z kd f) : CG 2 mX8_sum [vR 95, vI (k : Int)] σ α (fun r' s' a' => r' = some (vI (if z < 0 then -11 else sumU f z.toNat)) ∧ s' = σ ∧ RB a' k (z) (kd) (f) ∧ FrR k α a') := by
  obtain ⟨hz, hzr, hkd, hkr, hf⟩ := id hB
  refine CG.of [some (vR 95), some (vI (k : Int)), none, none] (by decide) (by simp [lvA]) rfl ?_
  refine v_iload_n iX8_sum_0 rfl ?_
  refine c_S1 (Mc := mX8_isBin) iX8_sum_1 lX8_230 kX8_isBin (qX8_isBin σ α _ (by omega)) (by decide) rfl rfl (Nat.le_of_ble_eq_true rfl) ?_
  try simp only [Int.toNat_natCast]
  refine v_bif_ne (tgt := 10) iX8_sum_4 (by decide) (fun h4 => ?_) (fun h4 => (by exfalso; simp at h4; omega))
  refine v_aload_n iX8_sum_10 rfl ?_
  refine v_getR iX8_sum_11 fX8_39 rfl rfl ?_
  refine v_iload_n iX8_sum_14 rfl ?_
  refine v_iaload iX8_sum_15 rfl (by omega) (by exact hz) ?_
  refine v_if_ge (tgt := 22) iX8_sum_16 (by decide) (by omega) (fun h16 => ?_) (fun h16 => ?_)
  · refine v_iconst iX8_sum_22 ?_
    refine v_is2 iX8_sum_23 ⟨rfl, rfl⟩ ?_
    refine v_iconst iX8_sum_24 ?_
    refine v_is3 iX8_sum_25 ⟨rfl, rfl⟩ ?_
    refine ind_up (P := fun j => VV 2 mX8_sum [vR 95, vI (k : Int)] (fun r' s' a' => r' = some (vI (if z < 0 then -11 else sumU f z.toNat)) ∧ s' = σ ∧ RB a' k (z) (kd) (f) ∧ FrR k α a') σ α 26 [some (vR 95), some (vI (k : Int)), some (vI (sumU f j)), some (vI (j : Int))] []) z.toNat ?_ 0 (by omega)
    intro j hj ih
    refine v_iload_n iX8_sum_26 rfl ?_
    refine v_aload_n iX8_sum_27 rfl ?_
    refine v_getR iX8_sum_28 fX8_39 rfl rfl ?_
    refine v_iload_n iX8_sum_31 rfl ?_
    refine v_iaload iX8_sum_32 rfl (by omega) (by exact hz) ?_
    refine v_icmp_ge (tgt := 56) iX8_sum_33 (by decide) (by omega) (fun h33 => ?_) (fun h33 => ?_)
    · have hjz : z.toNat = j := by omega
      refine v_iload_n iX8_sum_56 rfl ?_
      exact r_i iX8_sum_57 rfl (⟨cf_i (by rw [if_neg (by omega), hjz]), rfl, hB, FrR.rf _ _⟩)
    · refine v_iload_n iX8_sum_36 rfl ?_
      refine v_aload_n iX8_sum_37 rfl ?_
      refine v_getR iX8_sum_38 fX8_45 rfl rfl ?_
      refine v_bipush iX8_sum_41 (by decide) ?_
      refine v_iload_n iX8_sum_43 rfl ?_
      refine v_imul iX8_sum_44 ?_
      refine v_iload_n iX8_sum_45 rfl ?_
      refine v_iadd iX8_sum_46 ?_
      refine v_iaload iX8_sum_47 rfl (by omega) (by exact (show _ = f j by rw [show (8 * (k : Int) + (j : Int)).toNat = 8 * k + j by omega]; exact (hf j (by omega)).1)) ?_
      refine v_iadd iX8_sum_48 ?_
      refine v_is2 iX8_sum_49 ⟨rfl, rfl⟩ ?_
      refine v_in3 iX8_sum_50 ⟨rfl, rfl⟩ ?_
      refine v_goto (tgt := 26) iX8_sum_53 (by decide) ?_
      exact (ih (by omega)).as rfl rfl rfl rfl
  · refine v_bipush iX8_sum_19 (by decide) ?_
    exact r_i iX8_sum_21 rfl (⟨cf_i (by rw [if_pos (by omega)]), rfl, hB, FrR.rf _ _⟩)

set_option maxHeartbeats 4000000 in
set_option maxRecDepth 100000 in
theorem qX8_find (σ α : St) (k : Nat) (hk : k < 3) {z kd : Int} {f : Nat → Int} (hB : RB α k z kd f) (w : Int) (hw : InR w) : CG 2 mX8_find [vR 95, vI (k : Int), vI w] σ α (fun r' s' a' => r' = some (vI (if 0 ≤ w ∧ w ≤ 2 then fdR z w f else -3)) ∧ s' = σ ∧ RB a' k (z) (kd) (f) ∧ FrR k α a') := by
  obtain ⟨hz, hzr, hkd, hkr, hf⟩ := id hB
  refine CG.of [some (vR 95), some (vI (k : Int)), some (vI w), none, none] (by decide) (by simp [lvA]) rfl ?_
  refine v_iload_n iX8_find_0 rfl ?_
  refine c_S1 (Mc := mX8_isBin) iX8_find_1 lX8_230 kX8_isBin (qX8_isBin σ α _ (by omega)) (by decide) rfl rfl (Nat.le_of_ble_eq_true rfl) ?_
  try simp only [Int.toNat_natCast]
  refine v_bif_ne (tgt := 10) iX8_find_4 (by decide) (fun h4 => ?_) (fun h4 => (by exfalso; simp at h4; omega))
  refine v_iload_n iX8_find_10 rfl ?_
  refine v_i2l iX8_find_11 (by omega) ?_
  refine v_lconst (z := 0) iX8_find_12 rfl ?_
  refine v_ldc2 iX8_find_13 gX8_228 ?_
  refine c_S1 (Mc := mX8_in) iX8_find_16 lX8_62 kX8_in (qX8_in _ _ _ _ _ hw (by decide) (by decide)) (by decide) rfl rfl (Nat.le_of_ble_eq_true rfl) ?_
  try simp only [Int.toNat_natCast]
  refine v_bif_ne (tgt := 25) iX8_find_19 (by decide) (fun h19 => ?_) (fun h19 => ?_)
  · try simp only [Int.toNat_natCast] at h19
    simp only [decide_eq_true_eq] at h19
    refine v_aload_n iX8_find_25 rfl ?_
    refine v_getR iX8_find_26 fX8_39 rfl rfl ?_
    refine v_iload_n iX8_find_29 rfl ?_
    refine v_iaload iX8_find_30 rfl (by omega) (by exact hz) ?_
    refine v_iconst iX8_find_31 ?_
    refine v_icmp_ge (tgt := 52) iX8_find_32 (by decide) (by omega) (fun h32 => ?_) (fun h32 => ?_)
    · refine v_aload_n iX8_find_52 rfl ?_
      refine v_getR iX8_find_53 fX8_45 rfl rfl ?_
      refine v_bipush iX8_find_56 (by decide) ?_
      refine v_iload_n iX8_find_58 rfl ?_
      refine v_imul iX8_find_59 ?_
      refine v_aload_n iX8_find_60 rfl ?_
      refine v_getR iX8_find_61 fX8_39 rfl rfl ?_
      refine v_iload_n iX8_find_64 rfl ?_
      refine v_iaload iX8_find_65 rfl (by omega) (by exact hz) ?_
      refine v_iadd iX8_find_66 ?_
      refine v_iconst iX8_find_67 ?_
      refine v_isub iX8_find_68 ?_
      refine v_iaload iX8_find_69 rfl (by omega) (by exact (show _ = f (z - 1).toNat by rw [show (8 * (k : Int) + z - 1).toNat = 8 * k + (z - 1).toNat by omega]; exact (hf _ (by omega)).1)) ?_
      refine v_is3 iX8_find_70 ⟨rfl, rfl⟩ ?_
      refine v_bipush iX8_find_71 (by decide) ?_
      refine v_iload_n iX8_find_73 rfl ?_
      refine v_imul iX8_find_74 ?_
      refine v_is4 iX8_find_75 ⟨rfl, rfl⟩ ?_
      rcases (show w = 0 ∨ w = 1 ∨ w = 2 by omega) with rfl | rfl | rfl
      · refine V.as (ind_up (P := fun j => VV 2 mX8_find [vR 95, vI (k : Int), vI 0] (fun r' s' a' => r' = some (vI (if 0 ≤ (0 : Int) ∧ (0 : Int) ≤ 2 then fdR z 0 f else -3)) ∧ s' = σ ∧ RB a' k (z) (kd) (f) ∧ FrR k α a') σ α 77 [some (vR 95), some (vI (k : Int)), some (vI 0), some (vI (mxR f (f (z - 1).toNat) j)), some (vI (8 * (k : Int) + (j : Int)))] []) z.toNat ?_ 0 (by omega)) rfl rfl (by simp [mxR]) rfl
        intro j hj ih
        refine v_iload iX8_find_77 rfl ?_
        refine v_bipush iX8_find_79 (by decide) ?_
        refine v_iload_n iX8_find_81 rfl ?_
        refine v_imul iX8_find_82 ?_
        refine v_aload_n iX8_find_83 rfl ?_
        refine v_getR iX8_find_84 fX8_39 rfl rfl ?_
        refine v_iload_n iX8_find_87 rfl ?_
        refine v_iaload iX8_find_88 rfl (by omega) (by exact hz) ?_
        refine v_iadd iX8_find_89 ?_
        refine v_icmp_ge (tgt := 144) iX8_find_90 (by decide) (by omega) (fun h90 => ?_) (fun h90 => ?_)
        · have hjz : z.toNat = j := by omega
          refine v_iload_n iX8_find_144 rfl ?_
          exact r_i iX8_find_145 rfl (⟨cf_i (by rw [if_pos (by omega), fdR, if_neg (by omega), if_neg (by omega), if_pos rfl, ← hjz, show (z - 1).toNat = z.toNat - 1 by omega, mxR_eq f (by omega)]), rfl, hB, FrR.rf _ _⟩)
        · refine v_iload_n iX8_find_93 rfl ?_
          refine v_iconst iX8_find_94 ?_
          refine v_icmp_ge (tgt := 144) iX8_find_95 (by decide) (by omega) (fun h95 => (by exfalso; omega)) (fun h95 => ?_)
          have hfj := hf j (by omega)
          have hr := mxR_r f (f (z - 1).toNat) (hf _ (by omega)).2 (fun i hi => (hf i hi).2) j (by omega)
          refine v_iload_n iX8_find_98 rfl ?_
          refine v_if_ne (tgt := 106) iX8_find_99 (by decide) (by omega) (fun h99 => (by exfalso; omega)) (fun h99 => ?_)
          refine v_iconst iX8_find_102 ?_
          refine v_goto (tgt := 107) iX8_find_103 (by decide) ?_
          refine v_aload_n iX8_find_107 rfl ?_
          refine v_getR iX8_find_108 fX8_45 rfl rfl ?_
          refine v_iload iX8_find_111 rfl ?_
          refine v_iaload iX8_find_113 rfl (by omega) (by exact (show _ = f j by rw [show (8 * (k : Int) + (j : Int)).toNat = 8 * k + j by omega]; exact (hf j (by omega)).1)) ?_
          refine v_iload_n iX8_find_114 rfl ?_
          refine v_icmp_le (tgt := 122) iX8_find_115 (by decide) (by omega) (fun h115 => ?_) (fun h115 => ?_)
          · refine v_iconst iX8_find_122 ?_
            refine v_icmp_ne (tgt := 136) iX8_find_123 (by decide) (by omega) (fun h123 => ?_) (fun h123 => ?_)
            · refine v_iload_n iX8_find_136 rfl ?_
              refine v_is3 iX8_find_137 ⟨rfl, rfl⟩ ?_
              refine v_in4 iX8_find_138 ⟨rfl, rfl⟩ ?_
              refine v_goto (tgt := 77) iX8_find_141 (by decide) ?_
              first | (exfalso; omega) | exact (ih (by omega)).asw rfl rfl ⟨rfl, rfl, rfl, cf_i (by first | rw [mxR, if_pos (by omega)] | rw [mxR, if_neg (by omega)]), cf_i (by omega), trivial⟩ rfl
            · refine v_aload_n iX8_find_126 rfl ?_
              refine v_getR iX8_find_127 fX8_45 rfl rfl ?_
              refine v_iload iX8_find_130 rfl ?_
              refine v_iaload iX8_find_132 rfl (by omega) (by exact (show _ = f j by rw [show (8 * (k : Int) + (j : Int)).toNat = 8 * k + j by omega]; exact (hf j (by omega)).1)) ?_
              refine v_goto (tgt := 137) iX8_find_133 (by decide) ?_
              refine v_is3 iX8_find_137 ⟨rfl, rfl⟩ ?_
              refine v_in4 iX8_find_138 ⟨rfl, rfl⟩ ?_
              refine v_goto (tgt := 77) iX8_find_141 (by decide) ?_
              first | (exfalso; omega) | exact (ih (by omega)).asw rfl rfl ⟨rfl, rfl, rfl, cf_i (by first | rw [mxR, if_pos (by omega)] | rw [mxR, if_neg (by omega)]), cf_i (by omega), trivial⟩ rfl
          · refine v_iconst iX8_find_118 ?_
            refine v_goto (tgt := 123) iX8_find_119 (by decide) ?_
            refine v_icmp_ne (tgt := 136) iX8_find_123 (by decide) (by omega) (fun h123 => ?_) (fun h123 => ?_)
            · refine v_iload_n iX8_find_136 rfl ?_
              refine v_is3 iX8_find_137 ⟨rfl, rfl⟩ ?_
              refine v_in4 iX8_find_138 ⟨rfl, rfl⟩ ?_
              refine v_goto (tgt := 77) iX8_find_141 (by decide) ?_
              first | (exfalso; omega) | exact (ih (by omega)).asw rfl rfl ⟨rfl, rfl, rfl, cf_i (by first | rw [mxR, if_pos (by omega)] | rw [mxR, if_neg (by omega)]), cf_i (by omega), trivial⟩ rfl
            · refine v_aload_n iX8_find_126 rfl ?_
              refine v_getR iX8_find_127 fX8_45 rfl rfl ?_
              refine v_iload iX8_find_130 rfl ?_
              refine v_iaload iX8_find_132 rfl (by omega) (by exact (show _ = f j by rw [show (8 * (k : Int) + (j : Int)).toNat = 8 * k + j by omega]; exact (hf j (by omega)).1)) ?_
              refine v_goto (tgt := 137) iX8_find_133 (by decide) ?_
              refine v_is3 iX8_find_137 ⟨rfl, rfl⟩ ?_
              refine v_in4 iX8_find_138 ⟨rfl, rfl⟩ ?_
              refine v_goto (tgt := 77) iX8_find_141 (by decide) ?_
              first | (exfalso; omega) | exact (ih (by omega)).asw rfl rfl ⟨rfl, rfl, rfl, cf_i (by first | rw [mxR, if_pos (by omega)] | rw [mxR, if_neg (by omega)]), cf_i (by omega), trivial⟩ rfl
      · refine V.as (ind_up (P := fun j => VV 2 mX8_find [vR 95, vI (k : Int), vI 1] (fun r' s' a' => r' = some (vI (if 0 ≤ (1 : Int) ∧ (1 : Int) ≤ 2 then fdR z 1 f else -3)) ∧ s' = σ ∧ RB a' k (z) (kd) (f) ∧ FrR k α a') σ α 77 [some (vR 95), some (vI (k : Int)), some (vI 1), some (vI (mnR f (f (z - 1).toNat) j)), some (vI (8 * (k : Int) + (j : Int)))] []) z.toNat ?_ 0 (by omega)) rfl rfl (by simp [mnR]) rfl
        intro j hj ih
        refine v_iload iX8_find_77 rfl ?_
        refine v_bipush iX8_find_79 (by decide) ?_
        refine v_iload_n iX8_find_81 rfl ?_
        refine v_imul iX8_find_82 ?_
        refine v_aload_n iX8_find_83 rfl ?_
        refine v_getR iX8_find_84 fX8_39 rfl rfl ?_
        refine v_iload_n iX8_find_87 rfl ?_
        refine v_iaload iX8_find_88 rfl (by omega) (by exact hz) ?_
        refine v_iadd iX8_find_89 ?_
        refine v_icmp_ge (tgt := 144) iX8_find_90 (by decide) (by omega) (fun h90 => ?_) (fun h90 => ?_)
        · have hjz : z.toNat = j := by omega
          refine v_iload_n iX8_find_144 rfl ?_
          exact r_i iX8_find_145 rfl (⟨cf_i (by rw [if_pos (by omega), fdR, if_neg (by omega), if_neg (by omega), if_neg (by omega), if_pos rfl, ← hjz, show (z - 1).toNat = z.toNat - 1 by omega, mnR_eq f (by omega)]), rfl, hB, FrR.rf _ _⟩)
        · refine v_iload_n iX8_find_93 rfl ?_
          refine v_iconst iX8_find_94 ?_
          refine v_icmp_ge (tgt := 144) iX8_find_95 (by decide) (by omega) (fun h95 => (by exfalso; omega)) (fun h95 => ?_)
          have hfj := hf j (by omega)
          have hr := mnR_r f (f (z - 1).toNat) (hf _ (by omega)).2 (fun i hi => (hf i hi).2) j (by omega)
          refine v_iload_n iX8_find_98 rfl ?_
          refine v_if_ne (tgt := 106) iX8_find_99 (by decide) (by omega) (fun h99 => ?_) (fun h99 => (by exfalso; omega))
          refine v_iconst iX8_find_106 ?_
          refine v_aload_n iX8_find_107 rfl ?_
          refine v_getR iX8_find_108 fX8_45 rfl rfl ?_
          refine v_iload iX8_find_111 rfl ?_
          refine v_iaload iX8_find_113 rfl (by omega) (by exact (show _ = f j by rw [show (8 * (k : Int) + (j : Int)).toNat = 8 * k + j by omega]; exact (hf j (by omega)).1)) ?_
          refine v_iload_n iX8_find_114 rfl ?_
          refine v_icmp_le (tgt := 122) iX8_find_115 (by decide) (by omega) (fun h115 => ?_) (fun h115 => ?_)
          · refine v_iconst iX8_find_122 ?_
            refine v_icmp_ne (tgt := 136) iX8_find_123 (by decide) (by omega) (fun h123 => ?_) (fun h123 => ?_)
            · refine v_iload_n iX8_find_136 rfl ?_
              refine v_is3 iX8_find_137 ⟨rfl, rfl⟩ ?_
              refine v_in4 iX8_find_138 ⟨rfl, rfl⟩ ?_
              refine v_goto (tgt := 77) iX8_find_141 (by decide) ?_
              first | (exfalso; omega) | exact (ih (by omega)).asw rfl rfl ⟨rfl, rfl, rfl, cf_i (by first | rw [mnR, if_pos (by omega)] | rw [mnR, if_neg (by omega)]), cf_i (by omega), trivial⟩ rfl
            · refine v_aload_n iX8_find_126 rfl ?_
              refine v_getR iX8_find_127 fX8_45 rfl rfl ?_
              refine v_iload iX8_find_130 rfl ?_
              refine v_iaload iX8_find_132 rfl (by omega) (by exact (show _ = f j by rw [show (8 * (k : Int) + (j : Int)).toNat = 8 * k + j by omega]; exact (hf j (by omega)).1)) ?_
              refine v_goto (tgt := 137) iX8_find_133 (by decide) ?_
              refine v_is3 iX8_find_137 ⟨rfl, rfl⟩ ?_
              refine v_in4 iX8_find_138 ⟨rfl, rfl⟩ ?_
              refine v_goto (tgt := 77) iX8_find_141 (by decide) ?_
              first | (exfalso; omega) | exact (ih (by omega)).asw rfl rfl ⟨rfl, rfl, rfl, cf_i (by first | rw [mnR, if_pos (by omega)] | rw [mnR, if_neg (by omega)]), cf_i (by omega), trivial⟩ rfl
          · refine v_iconst iX8_find_118 ?_
            refine v_goto (tgt := 123) iX8_find_119 (by decide) ?_
            refine v_icmp_ne (tgt := 136) iX8_find_123 (by decide) (by omega) (fun h123 => ?_) (fun h123 => ?_)
            · refine v_iload_n iX8_find_136 rfl ?_
              refine v_is3 iX8_find_137 ⟨rfl, rfl⟩ ?_
              refine v_in4 iX8_find_138 ⟨rfl, rfl⟩ ?_
              refine v_goto (tgt := 77) iX8_find_141 (by decide) ?_
              first | (exfalso; omega) | exact (ih (by omega)).asw rfl rfl ⟨rfl, rfl, rfl, cf_i (by first | rw [mnR, if_pos (by omega)] | rw [mnR, if_neg (by omega)]), cf_i (by omega), trivial⟩ rfl
            · refine v_aload_n iX8_find_126 rfl ?_
              refine v_getR iX8_find_127 fX8_45 rfl rfl ?_
              refine v_iload iX8_find_130 rfl ?_
              refine v_iaload iX8_find_132 rfl (by omega) (by exact (show _ = f j by rw [show (8 * (k : Int) + (j : Int)).toNat = 8 * k + j by omega]; exact (hf j (by omega)).1)) ?_
              refine v_goto (tgt := 137) iX8_find_133 (by decide) ?_
              refine v_is3 iX8_find_137 ⟨rfl, rfl⟩ ?_
              refine v_in4 iX8_find_138 ⟨rfl, rfl⟩ ?_
              refine v_goto (tgt := 77) iX8_find_141 (by decide) ?_
              first | (exfalso; omega) | exact (ih (by omega)).asw rfl rfl ⟨rfl, rfl, rfl, cf_i (by first | rw [mnR, if_pos (by omega)] | rw [mnR, if_neg (by omega)]), cf_i (by omega), trivial⟩ rfl
      · refine v_iload iX8_find_77 rfl ?_
        refine v_bipush iX8_find_79 (by decide) ?_
        refine v_iload_n iX8_find_81 rfl ?_
        refine v_imul iX8_find_82 ?_
        refine v_aload_n iX8_find_83 rfl ?_
        refine v_getR iX8_find_84 fX8_39 rfl rfl ?_
        refine v_iload_n iX8_find_87 rfl ?_
        refine v_iaload iX8_find_88 rfl (by omega) (by exact hz) ?_
        refine v_iadd iX8_find_89 ?_
        refine v_icmp_ge (tgt := 144) iX8_find_90 (by decide) (by omega) (fun h90 => (by exfalso; omega)) (fun h90 => ?_)
        refine v_iload_n iX8_find_93 rfl ?_
        refine v_iconst iX8_find_94 ?_
        refine v_icmp_ge (tgt := 144) iX8_find_95 (by decide) (by omega) (fun h95 => ?_) (fun h95 => (by exfalso; omega))
        refine v_iload_n iX8_find_144 rfl ?_
        exact r_i iX8_find_145 rfl (⟨cf_i (by rw [if_pos (by omega), fdR, if_neg (by omega), if_neg (by omega), if_neg (by omega), if_neg (by omega)]), rfl, hB, FrR.rf _ _⟩)
    · refine v_aload_n iX8_find_35 rfl ?_
      refine v_getR iX8_find_36 fX8_39 rfl rfl ?_
      refine v_iload_n iX8_find_39 rfl ?_
      refine v_iaload iX8_find_40 rfl (by omega) (by exact hz) ?_
      refine v_if_ge (tgt := 49) iX8_find_41 (by decide) (by omega) (fun h41 => ?_) (fun h41 => ?_)
      · refine v_bipush iX8_find_49 (by decide) ?_
        exact r_i iX8_find_51 rfl (by first | exact ⟨cf_i (by rw [if_pos h19, fdR, if_pos (by omega)]), rfl, hB, FrR.rf _ _⟩ | exact ⟨cf_i (by rw [if_pos h19, fdR, if_neg (by omega), if_pos (by omega)]), rfl, hB, FrR.rf _ _⟩)
      · refine v_bipush iX8_find_44 (by decide) ?_
        refine v_goto (tgt := 51) iX8_find_46 (by decide) ?_
        exact r_i iX8_find_51 rfl (by first | exact ⟨cf_i (by rw [if_pos h19, fdR, if_pos (by omega)]), rfl, hB, FrR.rf _ _⟩ | exact ⟨cf_i (by rw [if_pos h19, fdR, if_neg (by omega), if_pos (by omega)]), rfl, hB, FrR.rf _ _⟩)
  · try simp only [Int.toNat_natCast] at h19
    simp only [decide_eq_false_iff_not] at h19
    refine v_bipush iX8_find_22 (by decide) ?_
    exact r_i iX8_find_24 rfl (⟨cf_i (by rw [if_neg h19]), rfl, hB, FrR.rf _ _⟩)
