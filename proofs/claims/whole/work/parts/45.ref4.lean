set_option maxHeartbeats 4000000 in
set_option maxRecDepth 100000 in
theorem qX8_copyRow (σ α : St) (a b : Nat) (ha : a + 29 ≤ 348) (hb : b + 29 ≤ 348) (hab : a + 29 ≤ b ∨ b + 29 ≤ a) : CF 0 mX8_copyRow [vR 95, vI (a : Int), vI (b : Int)] σ α (none) (σ) (uA α 96 (cpR (α 96) a b 29)) := by
  refine CG.of [some (vR 95), some (vI (a : Int)), some (vI (b : Int)), none] (by decide) (by simp [lvA]) rfl ?_
  refine v_iconst iX8_copyRow_0 ?_
  refine v_is3 iX8_copyRow_1 ⟨rfl, rfl⟩ ?_
  have key := ind_up (P := fun k => VV 0 mX8_copyRow [vR 95, vI (a : Int), vI (b : Int)] (fun r' s' a' => r' = none ∧ s' = σ ∧ a' = uA α 96 (cpR (α 96) a b 29)) σ (uA α 96 (cpR (α 96) a b k)) 2 [some (vR 95), some (vI (a : Int)), some (vI (b : Int)), some (vI (k : Int))] []) 29 ?_ 0 (by omega)
  · exact key.as rfl (by rw [cpR_0, uA_id]) rfl rfl
  intro k hk ih
  refine v_iload_n iX8_copyRow_2 rfl ?_
  refine v_bipush iX8_copyRow_3 (by decide) ?_
  refine v_icmp_ge (tgt := 30) iX8_copyRow_5 (by decide) (by omega) (fun h5 => ?_) (fun h5 => ?_)
  · have hk29 : 29 = k := by omega
    subst hk29
    exact r_v iX8_copyRow_30 rfl (⟨rfl, rfl, rfl⟩)
  · refine v_aload_n iX8_copyRow_8 rfl ?_
    refine v_getR iX8_copyRow_9 fX8_7 rfl rfl ?_
    refine v_iload_n iX8_copyRow_12 rfl ?_
    refine v_iload_n iX8_copyRow_13 rfl ?_
    refine v_iadd iX8_copyRow_14 ?_
    refine v_aload_n iX8_copyRow_15 rfl ?_
    refine v_getR iX8_copyRow_16 fX8_7 rfl rfl ?_
    refine v_iload_n iX8_copyRow_19 rfl ?_
    refine v_iload_n iX8_copyRow_20 rfl ?_
    refine v_iadd iX8_copyRow_21 ?_
    refine v_iaload iX8_copyRow_22 rfl (by omega) (by exact (show _ = α 96 (a + k) by rw [uA_eq, show ((a : Int) + (k : Int)).toNat = a + k by omega, cpR_out _ (by omega)])) ?_
    refine v_iastore iX8_copyRow_23 rfl (by omega) ?_
    refine v_in3 iX8_copyRow_24 ⟨rfl, rfl⟩ ?_
    refine v_goto (tgt := 2) iX8_copyRow_27 (by decide) ?_
    exact (ih (by omega)).as rfl (by rw [uA_eq, uA_uA, show ((b : Int) + (k : Int)).toNat = b + k by omega, cpR_s]) rfl rfl

set_option maxHeartbeats 4000000 in
set_option maxRecDepth 100000 in
theorem qX8_keepPast_a (σ α : St) (u : Nat) (hu : σ 95 8 = u) (hu8 : u < 8) : CF 1 mX8_keepPast [vR 95] σ α (none) (uS σ 95 8 ((u : Int) + 1)) (uA α 96 (cpR (α 96) 0 (29 + 29 * u) 29)) := by
  refine CG.of [some (vR 95), none] (by decide) (by simp [lvA]) rfl ?_
  refine v_iconst iX8_keepPast_0 ?_
  refine v_is1 iX8_keepPast_1 ⟨rfl, rfl⟩ ?_
  refine v_iload_n iX8_keepPast_2 rfl ?_
  refine v_sipush iX8_keepPast_3 (by decide) ?_
  refine v_icmp_ge (tgt := 42) iX8_keepPast_6 (by decide) (by omega) (fun h6 => (by exfalso; omega)) (fun h6 => ?_)
  refine v_aload_n iX8_keepPast_9 rfl ?_
  refine v_getI iX8_keepPast_10 fX8_144 rfl rfl (by exact hu) ?_
  refine v_bipush iX8_keepPast_13 (by decide) ?_
  refine v_icmp_ne (tgt := 42) iX8_keepPast_15 (by decide) (by omega) (fun h15 => ?_) (fun h15 => (by exfalso; omega))
  refine v_aload_n iX8_keepPast_42 rfl ?_
  refine v_dup iX8_keepPast_43 (by intro z h; cases h) ?_
  refine v_getI iX8_keepPast_44 fX8_144 rfl rfl (by exact hu) ?_
  refine v_aload_n iX8_keepPast_47 rfl ?_
  refine v_getI iX8_keepPast_48 fX8_144 rfl rfl (by exact hu) ?_
  refine v_bipush iX8_keepPast_51 (by decide) ?_
  refine v_icmp_ne (tgt := 60) iX8_keepPast_53 (by decide) (by omega) (fun h53 => ?_) (fun h53 => (by exfalso; omega))
  refine v_iconst iX8_keepPast_60 ?_
  refine v_isub iX8_keepPast_61 ?_
  refine v_put iX8_keepPast_62 pX8_144 rfl rfl (by intro h; cases h) ?_
  refine v_aload_n iX8_keepPast_65 rfl ?_
  refine v_iconst iX8_keepPast_66 ?_
  refine v_bipush iX8_keepPast_67 (by decide) ?_
  refine v_bipush iX8_keepPast_69 (by decide) ?_
  refine v_aload_n iX8_keepPast_71 rfl ?_
  refine v_getI iX8_keepPast_72 fX8_144 rfl rfl (by exact (show _ = (u : Int) by rw [uS_eq]; omega)) ?_
  refine v_imul iX8_keepPast_75 ?_
  refine v_iadd iX8_keepPast_76 ?_
  rw [show (29 : Int) + 29 * (u : Int) = ((29 + 29 * u : Nat) : Int) by omega]
  refine c_V0 (Mc := mX8_copyRow) iX8_keepPast_77 lX8_140 kX8_copyRow (qX8_copyRow _ α 0 (29 + 29 * u) (by omega) (by omega) (by omega)) (by decide) rfl rfl rfl rfl (Nat.le_of_ble_eq_true rfl) ?_
  try simp only [Int.toNat_natCast]
  refine v_aload_n iX8_keepPast_80 rfl ?_
  refine v_dup iX8_keepPast_81 (by intro z h; cases h) ?_
  refine v_getI iX8_keepPast_82 fX8_144 rfl rfl (by exact (show _ = (u : Int) by rw [uS_eq]; omega)) ?_
  refine v_iconst iX8_keepPast_85 ?_
  refine v_iadd iX8_keepPast_86 ?_
  refine v_put iX8_keepPast_87 pX8_144 rfl rfl (by intro h; cases h) ?_
  exact r_v iX8_keepPast_90 rfl (⟨rfl, uS_uS _ _ _ _ _, rfl⟩)

set_option maxHeartbeats 4000000 in
set_option maxRecDepth 100000 in
theorem qX8_keepPast_b (σ α : St) (hu : σ 95 8 = 8) : CF 1 mX8_keepPast [vR 95] σ α (none) (uS σ 95 8 8) (uA α 96 (cpR (cpR (α 96) 58 29 203) 0 232 29)) := by
  refine CG.of [some (vR 95), none] (by decide) (by simp [lvA]) rfl ?_
  refine v_iconst iX8_keepPast_0 ?_
  refine v_is1 iX8_keepPast_1 ⟨rfl, rfl⟩ ?_
  have key := ind_up (P := fun k => VV 1 mX8_keepPast [vR 95] (fun r' s' a' => r' = none ∧ s' = uS σ 95 8 8 ∧ a' = uA α 96 (cpR (cpR (α 96) 58 29 203) 0 232 29)) σ (uA α 96 (cpR (α 96) 58 29 k)) 2 [some (vR 95), some (vI (k : Int))] []) 203 ?_ 0 (by omega)
  · exact key.as rfl (by rw [cpR_0, uA_id]) rfl rfl
  intro k hk ih
  refine v_iload_n iX8_keepPast_2 rfl ?_
  refine v_sipush iX8_keepPast_3 (by decide) ?_
  refine v_icmp_ge (tgt := 42) iX8_keepPast_6 (by decide) (by omega) (fun h6 => ?_) (fun h6 => ?_)
  · have hk203 : 203 = k := by omega
    subst hk203
    refine v_aload_n iX8_keepPast_42 rfl ?_
    refine v_dup iX8_keepPast_43 (by intro z h; cases h) ?_
    refine v_getI iX8_keepPast_44 fX8_144 rfl rfl (by exact hu) ?_
    refine v_aload_n iX8_keepPast_47 rfl ?_
    refine v_getI iX8_keepPast_48 fX8_144 rfl rfl (by exact hu) ?_
    refine v_bipush iX8_keepPast_51 (by decide) ?_
    refine v_icmp_ne (tgt := 60) iX8_keepPast_53 (by decide) (by omega) (fun h53 => (by exfalso; omega)) (fun h53 => ?_)
    refine v_iconst iX8_keepPast_56 ?_
    refine v_goto (tgt := 61) iX8_keepPast_57 (by decide) ?_
    refine v_isub iX8_keepPast_61 ?_
    refine v_put iX8_keepPast_62 pX8_144 rfl rfl (by intro h; cases h) ?_
    refine v_aload_n iX8_keepPast_65 rfl ?_
    refine v_iconst iX8_keepPast_66 ?_
    refine v_bipush iX8_keepPast_67 (by decide) ?_
    refine v_bipush iX8_keepPast_69 (by decide) ?_
    refine v_aload_n iX8_keepPast_71 rfl ?_
    refine v_getI iX8_keepPast_72 fX8_144 rfl rfl (by exact (show _ = (7 : Int) by rw [uS_eq]; rfl)) ?_
    refine v_imul iX8_keepPast_75 ?_
    refine v_iadd iX8_keepPast_76 ?_
    refine c_V0 (Mc := mX8_copyRow) iX8_keepPast_77 lX8_140 kX8_copyRow (qX8_copyRow _ _ 0 232 (by omega) (by omega) (by omega)) (by decide) rfl rfl rfl rfl (Nat.le_of_ble_eq_true rfl) ?_
    try simp only [Int.toNat_natCast]
    refine v_aload_n iX8_keepPast_80 rfl ?_
    refine v_dup iX8_keepPast_81 (by intro z h; cases h) ?_
    refine v_getI iX8_keepPast_82 fX8_144 rfl rfl (by exact (show _ = (7 : Int) by rw [uS_eq]; rfl)) ?_
    refine v_iconst iX8_keepPast_85 ?_
    refine v_iadd iX8_keepPast_86 ?_
    refine v_put iX8_keepPast_87 pX8_144 rfl rfl (by intro h; cases h) ?_
    exact r_v iX8_keepPast_90 rfl (⟨rfl, by rw [uS_uS]; rfl, by rw [uA_eq, uA_uA]⟩)
  · refine v_aload_n iX8_keepPast_9 rfl ?_
    refine v_getI iX8_keepPast_10 fX8_144 rfl rfl (by exact hu) ?_
    refine v_bipush iX8_keepPast_13 (by decide) ?_
    refine v_icmp_ne (tgt := 42) iX8_keepPast_15 (by decide) (by omega) (fun h15 => (by exfalso; omega)) (fun h15 => ?_)
    refine v_aload_n iX8_keepPast_18 rfl ?_
    refine v_getR iX8_keepPast_19 fX8_7 rfl rfl ?_
    refine v_bipush iX8_keepPast_22 (by decide) ?_
    refine v_iload_n iX8_keepPast_24 rfl ?_
    refine v_iadd iX8_keepPast_25 ?_
    refine v_aload_n iX8_keepPast_26 rfl ?_
    refine v_getR iX8_keepPast_27 fX8_7 rfl rfl ?_
    refine v_bipush iX8_keepPast_30 (by decide) ?_
    refine v_iload_n iX8_keepPast_32 rfl ?_
    refine v_iadd iX8_keepPast_33 ?_
    refine v_iaload iX8_keepPast_34 rfl (by omega) (by exact (show _ = α 96 (58 + k) by rw [uA_eq, show ((58 : Int) + (k : Int)).toNat = 58 + k by omega, cpR_out _ (by omega)])) ?_
    refine v_iastore iX8_keepPast_35 rfl (by omega) ?_
    refine v_in1 iX8_keepPast_36 ⟨rfl, rfl⟩ ?_
    refine v_goto (tgt := 2) iX8_keepPast_39 (by decide) ?_
    exact (ih (by omega)).as rfl (by rw [uA_eq, uA_uA, show ((29 : Int) + (k : Int)).toNat = 29 + k by omega, cpR_s]) rfl rfl

set_option maxHeartbeats 4000000 in
set_option maxRecDepth 100000 in
theorem qX8_addRiser (σ α : St) (m : Nat) (hm : α 96 0 = m) (hm6 : m < 6) (on vo sk : Int) : CF 0 mX8_addRiser [vR 95, vI on, vI vo, vI sk] σ α (none) (σ) (uA α 96 (arR (α 96) m on vo sk)) := by
  refine CG.of [some (vR 95), some (vI on), some (vI vo), some (vI sk), none] (by decide) (by simp [lvA]) rfl ?_
  refine v_aload_n iX8_addRiser_0 rfl ?_
  refine v_getR iX8_addRiser_1 fX8_7 rfl rfl ?_
  refine v_iconst iX8_addRiser_4 ?_
  refine v_iaload iX8_addRiser_5 rfl (by omega) (by exact hm) ?_
  refine v_is4 iX8_addRiser_6 ⟨rfl, rfl⟩ ?_
  refine v_aload_n iX8_addRiser_8 rfl ?_
  refine v_getR iX8_addRiser_9 fX8_7 rfl rfl ?_
  refine v_iconst iX8_addRiser_12 ?_
  refine v_iload iX8_addRiser_13 rfl ?_
  refine v_iadd iX8_addRiser_15 ?_
  refine v_iload_n iX8_addRiser_16 rfl ?_
  refine v_iastore iX8_addRiser_17 rfl (by omega) ?_
  refine v_aload_n iX8_addRiser_18 rfl ?_
  refine v_getR iX8_addRiser_19 fX8_7 rfl rfl ?_
  refine v_bipush iX8_addRiser_22 (by decide) ?_
  refine v_iload iX8_addRiser_24 rfl ?_
  refine v_iadd iX8_addRiser_26 ?_
  refine v_iload_n iX8_addRiser_27 rfl ?_
  refine v_iastore iX8_addRiser_28 rfl (by omega) ?_
  refine v_aload_n iX8_addRiser_29 rfl ?_
  refine v_getR iX8_addRiser_30 fX8_7 rfl rfl ?_
  refine v_bipush iX8_addRiser_33 (by decide) ?_
  refine v_iload iX8_addRiser_35 rfl ?_
  refine v_iadd iX8_addRiser_37 ?_
  refine v_iload_n iX8_addRiser_38 rfl ?_
  refine v_iastore iX8_addRiser_39 rfl (by omega) ?_
  refine v_aload_n iX8_addRiser_40 rfl ?_
  refine v_getR iX8_addRiser_41 fX8_7 rfl rfl ?_
  refine v_iconst iX8_addRiser_44 ?_
  refine v_dup2 iX8_addRiser_45 ⟨(by intro z h; cases h), (by intro z h; cases h)⟩ ?_
  refine v_iaload iX8_addRiser_46 rfl (by omega) (by exact (show _ = (m : Int) by rw [uA_eq, uA_eq, uA_eq, show (0 : Int).toNat = 0 from rfl, uF_ne _ _ (by omega), uF_ne _ _ (by omega), uF_ne _ _ (by omega)]; exact hm)) ?_
  refine v_iconst iX8_addRiser_47 ?_
  refine v_iadd iX8_addRiser_48 ?_
  refine v_iastore iX8_addRiser_49 rfl (by omega) ?_
  exact r_v iX8_addRiser_50 rfl (⟨rfl, rfl, by simp only [uA_eq, uA_uA, show ((1 : Int) + (m : Int)).toNat = 1 + m by omega, show ((7 : Int) + (m : Int)).toNat = 7 + m by omega, show ((13 : Int) + (m : Int)).toNat = 13 + m by omega]; rfl⟩)

set_option maxHeartbeats 4000000 in
set_option maxRecDepth 100000 in
theorem qX8_write (σ α : St) (l : Nat) (hl : σ 95 11 = l) (hl2 : l ≤ 200) (c : Int) (hc : InR c) : CF 1 mX8_write [vR 95, vI c] σ α (some (vI (if 0 ≤ c ∧ c ≤ 255 then (if l = 200 then -5 else (l : Int) + 1) else -3))) (if (0 ≤ c ∧ c ≤ 255) ∧ l ≠ 200 then uS σ 95 11 ((l : Int) + 1) else σ) (if (0 ≤ c ∧ c ≤ 255) ∧ l ≠ 200 then uA α 101 (uF (α 101) l c) else α) := by
  refine CG.of [some (vR 95), some (vI c)] (by decide) (by simp [lvA]) rfl ?_
  refine v_iload_n iX8_write_0 rfl ?_
  refine v_i2l iX8_write_1 (by omega) ?_
  refine v_lconst (z := 0) iX8_write_2 rfl ?_
  refine v_ldc2 iX8_write_3 gX8_60 ?_
  refine c_S1 (Mc := mX8_in) iX8_write_6 lX8_62 kX8_in (qX8_in _ _ _ _ _ hc (by decide) (by decide)) (by decide) rfl rfl (Nat.le_of_ble_eq_true rfl) ?_
  try simp only [Int.toNat_natCast]
  refine v_bif_ne (tgt := 15) iX8_write_9 (by decide) (fun h9 => ?_) (fun h9 => ?_)
  · try simp only [Int.toNat_natCast] at h9
    simp only [decide_eq_true_eq] at h9
    refine v_aload_n iX8_write_15 rfl ?_
    refine v_getI iX8_write_16 fX8_66 rfl rfl (by exact hl) ?_
    refine v_sipush iX8_write_19 (by decide) ?_
    refine v_icmp_ne (tgt := 28) iX8_write_22 (by decide) (by omega) (fun h22 => ?_) (fun h22 => ?_)
    · refine v_aload_n iX8_write_28 rfl ?_
      refine v_getR iX8_write_29 fX8_36 rfl rfl ?_
      refine v_aload_n iX8_write_32 rfl ?_
      refine v_getI iX8_write_33 fX8_66 rfl rfl (by exact hl) ?_
      refine v_iload_n iX8_write_36 rfl ?_
      refine v_iastore iX8_write_37 rfl (by omega) ?_
      refine v_aload_n iX8_write_38 rfl ?_
      refine v_dup iX8_write_39 (by intro z h; cases h) ?_
      refine v_getI iX8_write_40 fX8_66 rfl rfl (by exact hl) ?_
      refine v_iconst iX8_write_43 ?_
      refine v_iadd iX8_write_44 ?_
      refine v_put iX8_write_45 pX8_66 rfl rfl (by intro h; cases h) ?_
      refine v_aload_n iX8_write_48 rfl ?_
      refine v_getI iX8_write_49 fX8_66 rfl rfl (by exact uS_eq _ _ _ _) ?_
      exact r_i iX8_write_52 rfl (⟨cf_i (by rw [if_pos h9, if_neg (by omega)]), by rw [if_pos (by omega)], by rw [if_pos (by omega), Int.toNat_natCast]⟩)
    · refine v_bipush iX8_write_25 (by decide) ?_
      exact r_i iX8_write_27 rfl (⟨cf_i (by rw [if_pos h9, if_pos (by omega)]), by rw [if_neg (by omega)], by rw [if_neg (by omega)]⟩)
  · try simp only [Int.toNat_natCast] at h9
    simp only [decide_eq_false_iff_not] at h9
    refine v_bipush iX8_write_12 (by decide) ?_
    exact r_i iX8_write_14 rfl (⟨cf_i (by rw [if_neg h9]), by rw [if_neg (by omega)], by rw [if_neg (by omega)]⟩)

set_option maxHeartbeats 4000000 in
set_option maxRecDepth 100000 in
theorem qX7_write (σ α : St) (l : Nat) (hl : σ 1 1 = l) (hl2 : l ≤ 200) (c : Int) (hc : InR c) : CF 0 mX7_write [vR 0, vI c] σ α (some (vI (if 0 ≤ c ∧ c ≤ 255 then (if l = 200 then -5 else (l : Int) + 1) else -3))) (if (0 ≤ c ∧ c ≤ 255) ∧ l ≠ 200 then uS σ 1 1 ((l : Int) + 1) else σ) (if (0 ≤ c ∧ c ≤ 255) ∧ l ≠ 200 then uA α 2 (uF (α 2) l c) else α) := by
  refine CG.of [some (vR 0), some (vI c)] (by decide) (by simp [lvA]) rfl ?_
  refine v_iload_n iX7_write_0 rfl ?_
  refine v_if_lt (tgt := 11) iX7_write_1 (by decide) (by omega) (fun h1 => ?_) (fun h1 => ?_)
  · refine v_bipush iX7_write_11 (by decide) ?_
    exact r_i iX7_write_13 rfl (⟨cf_i (by rw [if_neg (by omega)]), by rw [if_neg (by omega)], by rw [if_neg (by omega)]⟩)
  · refine v_iload_n iX7_write_4 rfl ?_
    refine v_sipush iX7_write_5 (by decide) ?_
    refine v_icmp_le (tgt := 14) iX7_write_8 (by decide) (by omega) (fun h8 => ?_) (fun h8 => ?_)
    · refine v_aload_n iX7_write_14 rfl ?_
      refine v_getR iX7_write_15 fX7_10 rfl rfl ?_
      refine v_getI iX7_write_18 fX7_73 rfl rfl (by exact hl) ?_
      refine v_sipush iX7_write_21 (by decide) ?_
      refine v_icmp_lt (tgt := 30) iX7_write_24 (by decide) (by omega) (fun h24 => ?_) (fun h24 => ?_)
      · refine v_aload_n iX7_write_30 rfl ?_
        refine v_getR iX7_write_31 fX7_10 rfl rfl ?_
        refine v_getR iX7_write_34 fX7_77 rfl rfl ?_
        refine v_aload_n iX7_write_37 rfl ?_
        refine v_getR iX7_write_38 fX7_10 rfl rfl ?_
        refine v_getI iX7_write_41 fX7_73 rfl rfl (by exact hl) ?_
        refine v_iload_n iX7_write_44 rfl ?_
        refine v_iastore iX7_write_45 rfl (by omega) ?_
        refine v_aload_n iX7_write_46 rfl ?_
        refine v_getR iX7_write_47 fX7_10 rfl rfl ?_
        refine v_dup iX7_write_50 (by intro z h; cases h) ?_
        refine v_getI iX7_write_51 fX7_73 rfl rfl (by exact hl) ?_
        refine v_iconst iX7_write_54 ?_
        refine v_iadd iX7_write_55 ?_
        refine v_put iX7_write_56 pX7_73 rfl rfl (by intro h; cases h) ?_
        refine v_aload_n iX7_write_59 rfl ?_
        refine v_getR iX7_write_60 fX7_10 rfl rfl ?_
        refine v_getI iX7_write_63 fX7_73 rfl rfl (by exact uS_eq _ _ _ _) ?_
        exact r_i iX7_write_66 rfl (⟨cf_i (by rw [if_pos (by omega), if_neg (by omega)]), by rw [if_pos (by omega)], by rw [if_pos (by omega), Int.toNat_natCast]⟩)
      · refine v_bipush iX7_write_27 (by decide) ?_
        exact r_i iX7_write_29 rfl (⟨cf_i (by rw [if_pos (by omega), if_pos (by omega)]), by rw [if_neg (by omega)], by rw [if_neg (by omega)]⟩)
    · refine v_bipush iX7_write_11 (by decide) ?_
      exact r_i iX7_write_13 rfl (⟨cf_i (by rw [if_neg (by omega)]), by rw [if_neg (by omega)], by rw [if_neg (by omega)]⟩)

set_option maxHeartbeats 4000000 in
set_option maxRecDepth 100000 in
theorem qX8_erase (σ α : St) : CF 0 mX8_erase [vR 95] σ α (some (vI (σ 95 11))) (uS σ 95 11 0) (α) := by
  refine CG.of [some (vR 95), none] (by decide) (by simp [lvA]) rfl ?_
  refine v_aload_n iX8_erase_0 rfl ?_
  refine v_getI iX8_erase_1 fX8_66 rfl rfl rfl ?_
  refine v_is1 iX8_erase_4 ⟨rfl, rfl⟩ ?_
  refine v_aload_n iX8_erase_5 rfl ?_
  refine v_iconst iX8_erase_6 ?_
  refine v_put iX8_erase_7 pX8_66 rfl rfl (by intro h; cases h) ?_
  refine v_iload_n iX8_erase_10 rfl ?_
  exact r_i iX8_erase_11 rfl (⟨cf_i (by rfl), rfl, rfl⟩)

set_option maxHeartbeats 4000000 in
set_option maxRecDepth 100000 in
theorem qX7_erase (σ α : St) : CF 0 mX7_erase [vR 0] σ α (some (vI (σ 1 1))) (uS σ 1 1 0) (α) := by
  refine CG.of [some (vR 0), none] (by decide) (by simp [lvA]) rfl ?_
  refine v_aload_n iX7_erase_0 rfl ?_
  refine v_getR iX7_erase_1 fX7_10 rfl rfl ?_
  refine v_getI iX7_erase_4 fX7_73 rfl rfl rfl ?_
  refine v_is1 iX7_erase_7 ⟨rfl, rfl⟩ ?_
  refine v_aload_n iX7_erase_8 rfl ?_
  refine v_getR iX7_erase_9 fX7_10 rfl rfl ?_
  refine v_iconst iX7_erase_12 ?_
  refine v_put iX7_erase_13 pX7_73 rfl rfl (by intro h; cases h) ?_
  refine v_iload_n iX7_erase_16 rfl ?_
  exact r_i iX7_erase_17 rfl (⟨cf_i (by rfl), rfl, rfl⟩)
