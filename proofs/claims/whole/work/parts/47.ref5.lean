set_option maxHeartbeats 4000000 in
set_option maxRecDepth 100000 in
theorem qX8_put (σ α : St) {n : Nat} (hn : σ 95 1 = (n : Int)) (hn10 : n ≤ 10) {u : Nat} (hu : σ 95 8 = u) (hu8 : u ≤ 8) {m : Nat} (hm : α 96 0 = m) (hm6 : m ≤ 6) (i v k : Int) (hi : InR i) (hv : InR v) (hk : InR k) : CF 2 mX8_put [vR 95, vI i, vI v, vI k] σ α (some (vI (if 0 ≤ i ∧ i ≤ (n : Int) - 1 then (if (1 ≤ v ∧ v ≤ 99) ∧ 1 ≤ k ∧ k ≤ 99 then (if m = 6 then -5 else (m : Int)) else -3) else -2))) (if (0 ≤ i ∧ i ≤ (n : Int) - 1) ∧ ((1 ≤ v ∧ v ≤ 99) ∧ 1 ≤ k ∧ k ≤ 99) ∧ m ≠ 6 then uS σ 95 8 (kpU u : Int) else σ) (if (0 ≤ i ∧ i ≤ (n : Int) - 1) ∧ ((1 ≤ v ∧ v ≤ 99) ∧ 1 ≤ k ∧ k ≤ 99) ∧ m ≠ 6 then uA α 96 (arR (kpR (α 96) u) m i v k) else α) := by
  refine CG.of [some (vR 95), some (vI i), some (vI v), some (vI k)] (by decide) (by simp [lvA]) rfl ?_
  refine v_aload_n iX8_put_0 rfl ?_
  refine v_iload_n iX8_put_1 rfl ?_
  refine c_V1 (Mc := mX8_isSection) iX8_put_2 lX8_204 kX8_isSection (qX8_isSection σ α n i hi hn hn10) (by decide) rfl rfl rfl rfl (Nat.le_of_ble_eq_true rfl) ?_
  try simp only [Int.toNat_natCast]
  refine v_bif_ne (tgt := 11) iX8_put_5 (by decide) (fun h5 => ?_) (fun h5 => ?_)
  · try simp only [Int.toNat_natCast] at h5
    simp only [decide_eq_true_eq] at h5
    refine v_iload_n iX8_put_11 rfl ?_
    refine v_i2l iX8_put_12 (by omega) ?_
    refine v_lconst (z := 1) iX8_put_13 rfl ?_
    refine v_ldc2 iX8_put_14 gX8_218 ?_
    refine c_S1 (Mc := mX8_in) iX8_put_17 lX8_62 kX8_in (qX8_in _ _ _ _ _ hv (by decide) (by decide)) (by decide) rfl rfl (Nat.le_of_ble_eq_true rfl) ?_
    try simp only [Int.toNat_natCast]
    refine v_bif_eq (tgt := 35) iX8_put_20 (by decide) (fun h20 => ?_) (fun h20 => ?_)
    · try simp only [Int.toNat_natCast] at h20
      (try simp only [decide_eq_false_iff_not] at h20)
      (try simp only [decide_eq_false_iff_not] at h32)
      refine v_bipush iX8_put_35 (by decide) ?_
      exact r_i iX8_put_37 rfl (⟨cf_i (by rw [if_pos h5, if_neg (by omega)]), by rw [if_neg (by omega)], by rw [if_neg (by omega)]⟩)
    · try simp only [Int.toNat_natCast] at h20
      simp only [decide_eq_true_eq] at h20
      refine v_iload_n iX8_put_23 rfl ?_
      refine v_i2l iX8_put_24 (by omega) ?_
      refine v_lconst (z := 1) iX8_put_25 rfl ?_
      refine v_ldc2 iX8_put_26 gX8_218 ?_
      refine c_S1 (Mc := mX8_in) iX8_put_29 lX8_62 kX8_in (qX8_in _ _ _ _ _ hk (by decide) (by decide)) (by decide) rfl rfl (Nat.le_of_ble_eq_true rfl) ?_
      try simp only [Int.toNat_natCast]
      refine v_bif_ne (tgt := 38) iX8_put_32 (by decide) (fun h32 => ?_) (fun h32 => ?_)
      · try simp only [Int.toNat_natCast] at h32
        simp only [decide_eq_true_eq] at h32
        refine v_aload_n iX8_put_38 rfl ?_
        refine v_getR iX8_put_39 fX8_7 rfl rfl ?_
        refine v_iconst iX8_put_42 ?_
        refine v_iaload iX8_put_43 rfl (by omega) (by exact hm) ?_
        refine v_bipush iX8_put_44 (by decide) ?_
        refine v_icmp_ne (tgt := 52) iX8_put_46 (by decide) (by omega) (fun h46 => ?_) (fun h46 => ?_)
        · refine v_aload_n iX8_put_52 rfl ?_
          refine c_V0 (Mc := mX8_keepPast) iX8_put_53 lX8_220 kX8_keepPast (qX8_keepPast σ α u hu hu8) (by decide) rfl rfl rfl rfl (Nat.le_of_ble_eq_true rfl) ?_
          try simp only [Int.toNat_natCast]
          refine v_aload_n iX8_put_56 rfl ?_
          refine v_iload_n iX8_put_57 rfl ?_
          refine v_iload_n iX8_put_58 rfl ?_
          refine v_iload_n iX8_put_59 rfl ?_
          refine c_V0 (Mc := mX8_addRiser) iX8_put_60 lX8_107 kX8_addRiser (qX8_addRiser _ _ m (by rw [uA_eq, kpR_lo _ (by omega)]; exact hm) (by omega) i v k) (by decide) rfl rfl rfl rfl (Nat.le_of_ble_eq_true rfl) ?_
          try simp only [Int.toNat_natCast]
          refine v_aload_n iX8_put_63 rfl ?_
          refine v_getR iX8_put_64 fX8_7 rfl rfl ?_
          refine v_iconst iX8_put_67 ?_
          refine v_iaload iX8_put_68 rfl (by omega) (by exact (show _ = (m : Int) + 1 by rw [uA_eq]; rfl)) ?_
          refine v_iconst iX8_put_69 ?_
          refine v_isub iX8_put_70 ?_
          exact r_i iX8_put_71 rfl (⟨cf_i (by rw [if_pos h5, if_pos (by omega), if_neg (by omega)]; omega), by rw [if_pos (by omega)], by rw [if_pos (by omega), uA_eq, uA_uA]⟩)
        · refine v_bipush iX8_put_49 (by decide) ?_
          exact r_i iX8_put_51 rfl (⟨cf_i (by rw [if_pos h5, if_pos (by omega), if_pos (by omega)]), by rw [if_neg (by omega)], by rw [if_neg (by omega)]⟩)
      · try simp only [Int.toNat_natCast] at h32
        (try simp only [decide_eq_false_iff_not] at h20)
        (try simp only [decide_eq_false_iff_not] at h32)
        refine v_bipush iX8_put_35 (by decide) ?_
        exact r_i iX8_put_37 rfl (⟨cf_i (by rw [if_pos h5, if_neg (by omega)]), by rw [if_neg (by omega)], by rw [if_neg (by omega)]⟩)
  · try simp only [Int.toNat_natCast] at h5
    simp only [decide_eq_false_iff_not] at h5
    refine v_bipush iX8_put_8 (by decide) ?_
    exact r_i iX8_put_10 rfl (⟨cf_i (by rw [if_neg h5]), by rw [if_neg (by omega)], by rw [if_neg (by omega)]⟩)

set_option maxHeartbeats 4000000 in
set_option maxRecDepth 100000 in
theorem qX8_take (σ α : St) {u : Nat} (hu : σ 95 8 = u) (hu8 : u ≤ 8) {n m : Nat} (hM : RR α n m) (r : Nat) (hr : r < m) : CF 2 mX8_take [vR 95, vI (r : Int)] σ α (some (vI ((m : Int) - 1))) (uS σ 95 8 (kpU u : Int)) (uA α 96 (tkR (kpR (α 96) u) ((m : Int) - 1) r (m - 1))) := by
  have hm6 := hM.2.1
  refine CG.of [some (vR 95), some (vI (r : Int)), none] (by decide) (by simp [lvA]) rfl ?_
  refine v_aload_n iX8_take_0 rfl ?_
  refine v_iload_n iX8_take_1 rfl ?_
  refine c_V1 (Mc := mX8_isRiser) iX8_take_2 lX8_212 kX8_isRiser (qX8_isRiser σ α hM r (by omega)) (by decide) rfl rfl rfl rfl (Nat.le_of_ble_eq_true rfl) ?_
  try simp only [Int.toNat_natCast]
  refine v_bif_ne (tgt := 11) iX8_take_5 (by decide) (fun h5 => ?_) (fun h5 => (by exfalso; simp at h5; omega))
  refine v_aload_n iX8_take_11 rfl ?_
  refine c_V0 (Mc := mX8_keepPast) iX8_take_12 lX8_220 kX8_keepPast (qX8_keepPast σ α u hu hu8) (by decide) rfl rfl rfl rfl (Nat.le_of_ble_eq_true rfl) ?_
  try simp only [Int.toNat_natCast]
  refine v_aload_n iX8_take_15 rfl ?_
  refine v_getR iX8_take_16 fX8_7 rfl rfl ?_
  refine v_iconst iX8_take_19 ?_
  refine v_dup2 iX8_take_20 ⟨(by intro z h; cases h), (by intro z h; cases h)⟩ ?_
  refine v_iaload iX8_take_21 rfl (by omega) (by exact (show _ = (m : Int) by rw [uA_eq, show (0 : Int).toNat = 0 from rfl, kpR_lo _ (by omega)]; exact hM.1)) ?_
  refine v_iconst iX8_take_22 ?_
  refine v_isub iX8_take_23 ?_
  refine v_iastore iX8_take_24 rfl (by omega) ?_
  refine v_iload_n iX8_take_25 rfl ?_
  refine v_is2 iX8_take_26 ⟨rfl, rfl⟩ ?_
  have key := ind_up (P := fun k => r ≤ k → VV 2 mX8_take [vR 95, vI (r : Int)] (fun r' s' a' => r' = some (vI ((m : Int) - 1)) ∧ s' = uS σ 95 8 (kpU u : Int) ∧ a' = uA α 96 (tkR (kpR (α 96) u) ((m : Int) - 1) r (m - 1))) (uS σ 95 8 (kpU u : Int)) (uA α 96 (tkR (kpR (α 96) u) ((m : Int) - 1) r k)) 27 [some (vR 95), some (vI (r : Int)), some (vI (k : Int))] []) (m - 1) ?_ r (by omega)
  · exact (key (Nat.le_refl _)).as rfl (by rw [uA_eq, uA_uA, tkR_0]; rfl) rfl rfl
  intro k hk ih hrk
  refine v_iload_n iX8_take_27 rfl ?_
  refine v_aload_n iX8_take_28 rfl ?_
  refine v_getR iX8_take_29 fX8_7 rfl rfl ?_
  refine v_iconst iX8_take_32 ?_
  refine v_iaload iX8_take_33 rfl (by omega) (by exact (show _ = (m : Int) - 1 by rw [uA_eq]; rfl)) ?_
  refine v_icmp_ge (tgt := 101) iX8_take_34 (by decide) (by omega) (fun h34 => ?_) (fun h34 => ?_)
  · have hkm : m - 1 = k := by omega
    subst hkm
    refine v_aload_n iX8_take_101 rfl ?_
    refine v_getR iX8_take_102 fX8_7 rfl rfl ?_
    refine v_iconst iX8_take_105 ?_
    refine v_iaload iX8_take_106 rfl (by omega) (by exact (show _ = (m : Int) - 1 by rw [uA_eq]; rfl)) ?_
    exact r_i iX8_take_107 rfl (⟨rfl, rfl, rfl⟩)
  · refine v_aload_n iX8_take_37 rfl ?_
    refine v_getR iX8_take_38 fX8_7 rfl rfl ?_
    refine v_iconst iX8_take_41 ?_
    refine v_iload_n iX8_take_42 rfl ?_
    refine v_iadd iX8_take_43 ?_
    refine v_aload_n iX8_take_44 rfl ?_
    refine v_getR iX8_take_45 fX8_7 rfl rfl ?_
    refine v_iconst iX8_take_48 ?_
    refine v_iload_n iX8_take_49 rfl ?_
    refine v_iadd iX8_take_50 ?_
    refine v_iconst iX8_take_51 ?_
    refine v_iadd iX8_take_52 ?_
    refine v_iaload iX8_take_53 rfl (by omega) (by exact (show _ = kpR (α 96) u (2 + k) by rw [uA_eq, show ((1 : Int) + (k : Int) + 1).toNat = 2 + k by omega, tkR_out _ _ (by omega) (by omega)])) ?_
    refine v_iastore iX8_take_54 rfl (by omega) ?_
    refine v_aload_n iX8_take_55 rfl ?_
    refine v_getR iX8_take_56 fX8_7 rfl rfl ?_
    refine v_bipush iX8_take_59 (by decide) ?_
    refine v_iload_n iX8_take_61 rfl ?_
    refine v_iadd iX8_take_62 ?_
    refine v_aload_n iX8_take_63 rfl ?_
    refine v_getR iX8_take_64 fX8_7 rfl rfl ?_
    refine v_bipush iX8_take_67 (by decide) ?_
    refine v_iload_n iX8_take_69 rfl ?_
    refine v_iadd iX8_take_70 ?_
    refine v_iconst iX8_take_71 ?_
    refine v_iadd iX8_take_72 ?_
    refine v_iaload iX8_take_73 rfl (by omega) (by exact (show _ = kpR (α 96) u (8 + k) by rw [uA_eq, show ((7 : Int) + (k : Int) + 1).toNat = 8 + k by omega, uF_ne _ _ (by omega), uA_eq, tkR_out _ _ (by omega) (by omega)])) ?_
    refine v_iastore iX8_take_74 rfl (by omega) ?_
    refine v_aload_n iX8_take_75 rfl ?_
    refine v_getR iX8_take_76 fX8_7 rfl rfl ?_
    refine v_bipush iX8_take_79 (by decide) ?_
    refine v_iload_n iX8_take_81 rfl ?_
    refine v_iadd iX8_take_82 ?_
    refine v_aload_n iX8_take_83 rfl ?_
    refine v_getR iX8_take_84 fX8_7 rfl rfl ?_
    refine v_bipush iX8_take_87 (by decide) ?_
    refine v_iload_n iX8_take_89 rfl ?_
    refine v_iadd iX8_take_90 ?_
    refine v_iconst iX8_take_91 ?_
    refine v_iadd iX8_take_92 ?_
    refine v_iaload iX8_take_93 rfl (by omega) (by exact (show _ = kpR (α 96) u (14 + k) by rw [uA_eq, show ((13 : Int) + (k : Int) + 1).toNat = 14 + k by omega, uF_ne _ _ (by omega), uA_eq, uF_ne _ _ (by omega), uA_eq, tkR_out _ _ (by omega) (by omega)])) ?_
    refine v_iastore iX8_take_94 rfl (by omega) ?_
    refine v_in2 iX8_take_95 ⟨rfl, rfl⟩ ?_
    refine v_goto (tgt := 27) iX8_take_98 (by decide) ?_
    exact (ih (by omega) (by omega)).as rfl (by
      simp only [uA_eq, uA_uA, show ((1 : Int) + (k : Int)).toNat = 1 + k by omega, show ((7 : Int) + (k : Int)).toNat = 7 + k by omega, show ((13 : Int) + (k : Int)).toNat = 13 + k by omega]
      rw [tkR_s _ _ hrk (by omega)]) rfl rfl

set_option maxHeartbeats 4000000 in
set_option maxRecDepth 100000 in
theorem qX8_take_o (σ α : St) {n m : Nat} (hM : RR α n m) (r : Int) (hr : InR r) (hr2 : r < 0 ∨ (m : Int) ≤ r) : CF 2 mX8_take [vR 95, vI r] σ α (some (vI (-2))) (σ) (α) := by
  refine CG.of [some (vR 95), some (vI r), none] (by decide) (by simp [lvA]) rfl ?_
  refine v_aload_n iX8_take_0 rfl ?_
  refine v_iload_n iX8_take_1 rfl ?_
  refine c_V1 (Mc := mX8_isRiser) iX8_take_2 lX8_212 kX8_isRiser (qX8_isRiser σ α hM r hr) (by decide) rfl rfl rfl rfl (Nat.le_of_ble_eq_true rfl) ?_
  try simp only [Int.toNat_natCast]
  refine v_bif_ne (tgt := 11) iX8_take_5 (by decide) (fun h5 => (by exfalso; simp at h5; omega)) (fun h5 => ?_)
  refine v_bipush iX8_take_8 (by decide) ?_
  exact r_i iX8_take_10 rfl (⟨cf_i (by rfl), rfl, rfl⟩)

set_option maxHeartbeats 4000000 in
set_option maxRecDepth 100000 in
theorem qX8_undo (σ α : St) {u : Nat} (hu : σ 95 8 = (u : Int) + 1) (hu8 : u < 8) : CF 1 mX8_undo [vR 95] σ α (some (vI (u : Int))) (uS σ 95 8 u) (uA α 96 (cpR (α 96) (29 + 29 * u) 0 29)) := by
  refine CG.of [some (vR 95)] (by decide) (by simp [lvA]) rfl ?_
  refine v_aload_n iX8_undo_0 rfl ?_
  refine v_getI iX8_undo_1 fX8_144 rfl rfl (by exact hu) ?_
  refine v_if_ne (tgt := 10) iX8_undo_4 (by decide) (by omega) (fun h4 => ?_) (fun h4 => (by exfalso; omega))
  refine v_aload_n iX8_undo_10 rfl ?_
  refine v_dup iX8_undo_11 (by intro z h; cases h) ?_
  refine v_getI iX8_undo_12 fX8_144 rfl rfl (by exact hu) ?_
  refine v_iconst iX8_undo_15 ?_
  refine v_isub iX8_undo_16 ?_
  refine v_put iX8_undo_17 pX8_144 rfl rfl (by intro h; cases h) ?_
  refine v_aload_n iX8_undo_20 rfl ?_
  refine v_bipush iX8_undo_21 (by decide) ?_
  refine v_bipush iX8_undo_23 (by decide) ?_
  refine v_aload_n iX8_undo_25 rfl ?_
  refine v_getI iX8_undo_26 fX8_144 rfl rfl (by exact (show _ = (u : Int) by rw [uS_eq]; omega)) ?_
  refine v_imul iX8_undo_29 ?_
  refine v_iadd iX8_undo_30 ?_
  refine v_iconst iX8_undo_31 ?_
  rw [show (29 : Int) + 29 * (u : Int) = ((29 + 29 * u : Nat) : Int) by omega]
  refine c_V0 (Mc := mX8_copyRow) iX8_undo_32 lX8_140 kX8_copyRow (qX8_copyRow _ α (29 + 29 * u) 0 (by omega) (by omega) (by omega)) (by decide) rfl rfl rfl rfl (Nat.le_of_ble_eq_true rfl) ?_
  try simp only [Int.toNat_natCast]
  refine v_aload_n iX8_undo_35 rfl ?_
  refine v_getI iX8_undo_36 fX8_144 rfl rfl (by exact (show _ = (u : Int) by rw [uS_eq]; omega)) ?_
  exact r_i iX8_undo_39 rfl (⟨rfl, by rw [show (u : Int) + 1 - 1 = u by omega], rfl⟩)

set_option maxHeartbeats 4000000 in
set_option maxRecDepth 100000 in
theorem qX8_undo_o (σ α : St) (hu : σ 95 8 = 0) : CF 1 mX8_undo [vR 95] σ α (some (vI (-4))) (σ) (α) := by
  refine CG.of [some (vR 95)] (by decide) (by simp [lvA]) rfl ?_
  refine v_aload_n iX8_undo_0 rfl ?_
  refine v_getI iX8_undo_1 fX8_144 rfl rfl (by exact hu) ?_
  refine v_if_ne (tgt := 10) iX8_undo_4 (by decide) (by omega) (fun h4 => (by exfalso; omega)) (fun h4 => ?_)
  refine v_bipush iX8_undo_7 (by decide) ?_
  exact r_i iX8_undo_9 rfl (⟨cf_i (by rfl), rfl, rfl⟩)

set_option maxHeartbeats 4000000 in
set_option maxRecDepth 100000 in
theorem qX8_keep_o (σ α : St) (k : Int) (hk : InR k) (hk2 : k < 0 ∨ 2 ≤ k) : CF 1 mX8_keep [vR 95, vI k] σ α (some (vI (-2))) (σ) (α) := by
  refine CG.of [some (vR 95), some (vI k)] (by decide) (by simp [lvA]) rfl ?_
  refine v_iload_n iX8_keep_0 rfl ?_
  refine v_i2l iX8_keep_1 (by omega) ?_
  refine v_lconst (z := 0) iX8_keep_2 rfl ?_
  refine v_lconst (z := 1) iX8_keep_3 rfl ?_
  refine c_S1 (Mc := mX8_in) iX8_keep_4 lX8_62 kX8_in (qX8_in _ _ _ _ _ hk (by decide) (by decide)) (by decide) rfl rfl (Nat.le_of_ble_eq_true rfl) ?_
  try simp only [Int.toNat_natCast]
  refine v_bif_ne (tgt := 13) iX8_keep_7 (by decide) (fun h7 => (by exfalso; simp at h7; omega)) (fun h7 => ?_)
  refine v_bipush iX8_keep_10 (by decide) ?_
  exact r_i iX8_keep_12 rfl (⟨cf_i (by rfl), rfl, rfl⟩)

set_option maxHeartbeats 4000000 in
set_option maxRecDepth 100000 in
theorem qX8_back_o (σ α : St) (k : Int) (hk : InR k) (hk2 : k < 0 ∨ 2 ≤ k) : CF 1 mX8_back [vR 95, vI k] σ α (some (vI (-2))) (σ) (α) := by
  refine CG.of [some (vR 95), some (vI k)] (by decide) (by simp [lvA]) rfl ?_
  refine v_iload_n iX8_back_0 rfl ?_
  refine v_i2l iX8_back_1 (by omega) ?_
  refine v_lconst (z := 0) iX8_back_2 rfl ?_
  refine v_lconst (z := 1) iX8_back_3 rfl ?_
  refine c_S1 (Mc := mX8_in) iX8_back_4 lX8_62 kX8_in (qX8_in _ _ _ _ _ hk (by decide) (by decide)) (by decide) rfl rfl (Nat.le_of_ble_eq_true rfl) ?_
  try simp only [Int.toNat_natCast]
  refine v_bif_ne (tgt := 13) iX8_back_7 (by decide) (fun h7 => (by exfalso; simp at h7; omega)) (fun h7 => ?_)
  refine v_bipush iX8_back_10 (by decide) ?_
  exact r_i iX8_back_12 rfl (⟨cf_i (by rfl), rfl, rfl⟩)

set_option maxHeartbeats 4000000 in
set_option maxRecDepth 100000 in
theorem qX8_keep (σ α : St) (k : Nat) (hk : k < 2) : CF 1 mX8_keep [vR 95, vI (k : Int)] σ α (some (vI (α 96 0))) (σ) (uA (uA α 96 (cpR (α 96) 0 (261 + 29 * k) 29)) 100 (uF (α 100) k 1)) := by
  refine CG.of [some (vR 95), some (vI (k : Int))] (by decide) (by simp [lvA]) rfl ?_
  refine v_iload_n iX8_keep_0 rfl ?_
  refine v_i2l iX8_keep_1 (by omega) ?_
  refine v_lconst (z := 0) iX8_keep_2 rfl ?_
  refine v_lconst (z := 1) iX8_keep_3 rfl ?_
  refine c_S1 (Mc := mX8_in) iX8_keep_4 lX8_62 kX8_in (qX8_in _ _ _ _ _ (by omega) (by decide) (by decide)) (by decide) rfl rfl (Nat.le_of_ble_eq_true rfl) ?_
  try simp only [Int.toNat_natCast]
  refine v_bif_ne (tgt := 13) iX8_keep_7 (by decide) (fun h7 => ?_) (fun h7 => (by exfalso; simp at h7; omega))
  refine v_aload_n iX8_keep_13 rfl ?_
  refine v_iconst iX8_keep_14 ?_
  refine v_sipush iX8_keep_15 (by decide) ?_
  refine v_bipush iX8_keep_18 (by decide) ?_
  refine v_iload_n iX8_keep_20 rfl ?_
  refine v_imul iX8_keep_21 ?_
  refine v_iadd iX8_keep_22 ?_
  rw [show (261 : Int) + 29 * (k : Int) = ((261 + 29 * k : Nat) : Int) by omega]
  refine c_V0 (Mc := mX8_copyRow) iX8_keep_23 lX8_140 kX8_copyRow (qX8_copyRow σ α 0 (261 + 29 * k) (by omega) (by omega) (by omega)) (by decide) rfl rfl rfl rfl (Nat.le_of_ble_eq_true rfl) ?_
  try simp only [Int.toNat_natCast]
  refine v_aload_n iX8_keep_26 rfl ?_
  refine v_getR iX8_keep_27 fX8_32 rfl rfl ?_
  refine v_iload_n iX8_keep_30 rfl ?_
  refine v_iconst iX8_keep_31 ?_
  refine v_bastore iX8_keep_32 rfl (by omega) (by omega) ?_
  refine v_aload_n iX8_keep_33 rfl ?_
  refine v_getR iX8_keep_34 fX8_7 rfl rfl ?_
  refine v_iconst iX8_keep_37 ?_
  refine v_iaload iX8_keep_38 rfl (by omega) (by exact (show _ = α 96 0 by rw [uA_ne _ _ (by decide), uA_eq, show (0 : Int).toNat = 0 from rfl, cpR_out _ (by omega)])) ?_
  exact r_i iX8_keep_39 rfl (⟨rfl, rfl, by rw [uA_ne _ _ (show (100 : Nat) ≠ 96 by decide), Int.toNat_natCast]⟩)

set_option maxHeartbeats 4000000 in
set_option maxRecDepth 100000 in
theorem qX8_back (σ α : St) (k : Nat) (hk : k < 2) (hw : α 100 k = 1) : CF 1 mX8_back [vR 95, vI (k : Int)] σ α (some (vI (α 96 (261 + 29 * k)))) (uS σ 95 8 0) (uA α 96 (cpR (α 96) (261 + 29 * k) 0 29)) := by
  refine CG.of [some (vR 95), some (vI (k : Int))] (by decide) (by simp [lvA]) rfl ?_
  refine v_iload_n iX8_back_0 rfl ?_
  refine v_i2l iX8_back_1 (by omega) ?_
  refine v_lconst (z := 0) iX8_back_2 rfl ?_
  refine v_lconst (z := 1) iX8_back_3 rfl ?_
  refine c_S1 (Mc := mX8_in) iX8_back_4 lX8_62 kX8_in (qX8_in _ _ _ _ _ (by omega) (by decide) (by decide)) (by decide) rfl rfl (Nat.le_of_ble_eq_true rfl) ?_
  try simp only [Int.toNat_natCast]
  refine v_bif_ne (tgt := 13) iX8_back_7 (by decide) (fun h7 => ?_) (fun h7 => (by exfalso; simp at h7; omega))
  refine v_aload_n iX8_back_13 rfl ?_
  refine v_getR iX8_back_14 fX8_32 rfl rfl ?_
  refine v_iload_n iX8_back_17 rfl ?_
  refine v_baload iX8_back_18 rfl (by omega) (by exact hw) ?_
  refine v_if_ne (tgt := 25) iX8_back_19 (by decide) (by omega) (fun h19 => ?_) (fun h19 => (by exfalso; omega))
  refine v_aload_n iX8_back_25 rfl ?_
  refine v_sipush iX8_back_26 (by decide) ?_
  refine v_bipush iX8_back_29 (by decide) ?_
  refine v_iload_n iX8_back_31 rfl ?_
  refine v_imul iX8_back_32 ?_
  refine v_iadd iX8_back_33 ?_
  refine v_iconst iX8_back_34 ?_
  rw [show (261 : Int) + 29 * (k : Int) = ((261 + 29 * k : Nat) : Int) by omega]
  refine c_V0 (Mc := mX8_copyRow) iX8_back_35 lX8_140 kX8_copyRow (qX8_copyRow σ α (261 + 29 * k) 0 (by omega) (by omega) (by omega)) (by decide) rfl rfl rfl rfl (Nat.le_of_ble_eq_true rfl) ?_
  try simp only [Int.toNat_natCast]
  refine v_aload_n iX8_back_38 rfl ?_
  refine v_iconst iX8_back_39 ?_
  refine v_put iX8_back_40 pX8_144 rfl rfl (by intro h; cases h) ?_
  refine v_aload_n iX8_back_43 rfl ?_
  refine v_getR iX8_back_44 fX8_7 rfl rfl ?_
  refine v_iconst iX8_back_47 ?_
  refine v_iaload iX8_back_48 rfl (by omega) (by exact (show _ = α 96 (261 + 29 * k) by rw [uA_eq, show (0 : Int).toNat = 0 + 0 from rfl, cpR_in _ (by omega)]; rfl)) ?_
  exact r_i iX8_back_49 rfl (⟨cf_i (by rfl), rfl, rfl⟩)

set_option maxHeartbeats 4000000 in
set_option maxRecDepth 100000 in
theorem qX8_back_n (σ α : St) (k : Nat) (hk : k < 2) (hw : α 100 k = 0) : CF 1 mX8_back [vR 95, vI (k : Int)] σ α (some (vI (-4))) (σ) (α) := by
  refine CG.of [some (vR 95), some (vI (k : Int))] (by decide) (by simp [lvA]) rfl ?_
  refine v_iload_n iX8_back_0 rfl ?_
  refine v_i2l iX8_back_1 (by omega) ?_
  refine v_lconst (z := 0) iX8_back_2 rfl ?_
  refine v_lconst (z := 1) iX8_back_3 rfl ?_
  refine c_S1 (Mc := mX8_in) iX8_back_4 lX8_62 kX8_in (qX8_in _ _ _ _ _ (by omega) (by decide) (by decide)) (by decide) rfl rfl (Nat.le_of_ble_eq_true rfl) ?_
  try simp only [Int.toNat_natCast]
  refine v_bif_ne (tgt := 13) iX8_back_7 (by decide) (fun h7 => ?_) (fun h7 => (by exfalso; simp at h7; omega))
  refine v_aload_n iX8_back_13 rfl ?_
  refine v_getR iX8_back_14 fX8_32 rfl rfl ?_
  refine v_iload_n iX8_back_17 rfl ?_
  refine v_baload iX8_back_18 rfl (by omega) (by exact hw) ?_
  refine v_if_ne (tgt := 25) iX8_back_19 (by decide) (by omega) (fun h19 => (by exfalso; omega)) (fun h19 => ?_)
  refine v_bipush iX8_back_22 (by decide) ?_
  exact r_i iX8_back_24 rfl (⟨cf_i (by rfl), rfl, rfl⟩)
