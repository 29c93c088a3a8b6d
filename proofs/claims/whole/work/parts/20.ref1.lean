set_option maxHeartbeats 4000000 in
set_option maxRecDepth 100000 in
theorem qX8_in (σ α : St) (v l m : Int) (hv : InR v) (hl : InR l) (hm : InR m) : CF 0 mX8_in [vL v, vL l, vL m] σ α (some (vI (b2i (decide (l ≤ v ∧ v ≤ m))))) σ α := by
  refine CG.of [some (vL v), none, some (vL l), none, some (vL m), none] (by decide) (by simp [lvA]) rfl ?_
  refine v_lload_n iX8_in_0 rfl ?_
  refine v_lload_n iX8_in_1 rfl ?_
  refine v_lcmp iX8_in_2 (by exact ⟨hv, hl⟩) ?_
  refine v_if_lt (tgt := 17) iX8_in_3 (by decide) (by exact cmp3_r _ _) (fun h3 => ?_) (fun h3 => ?_)
  · (try rw [cmp3_lt] at h3); (try rw [cmp3_gt] at h10)
    refine v_iconst iX8_in_17 ?_
    exact r_b iX8_in_18 rfl (by first | exact b2i_01 _ | decide | omega) (⟨cf_i (by first | exact (b2i_pos (by omega)).symm | exact (b2i_neg (by omega)).symm), rfl, rfl⟩)
  · rw [cmp3_lt] at h3
    refine v_lload_n iX8_in_6 rfl ?_
    refine v_lload iX8_in_7 rfl ?_
    refine v_lcmp iX8_in_9 (by exact ⟨hv, hm⟩) ?_
    refine v_if_gt (tgt := 17) iX8_in_10 (by decide) (by exact cmp3_r _ _) (fun h10 => ?_) (fun h10 => ?_)
    · (try rw [cmp3_lt] at h3); (try rw [cmp3_gt] at h10)
      refine v_iconst iX8_in_17 ?_
      exact r_b iX8_in_18 rfl (by first | exact b2i_01 _ | decide | omega) (⟨cf_i (by first | exact (b2i_pos (by omega)).symm | exact (b2i_neg (by omega)).symm), rfl, rfl⟩)
    · rw [cmp3_gt] at h10
      refine v_iconst iX8_in_13 ?_
      refine v_goto (tgt := 18) iX8_in_14 (by decide) ?_
      exact r_b iX8_in_18 rfl (by first | exact b2i_01 _ | decide | omega) (⟨cf_i (by first | exact (b2i_pos (by omega)).symm | exact (b2i_neg (by omega)).symm), rfl, rfl⟩)

set_option maxHeartbeats 4000000 in
set_option maxRecDepth 100000 in
theorem qX8_has (σ α : St) (x k : Int) (hx : 0 ≤ x ∧ x ≤ 2147483647) (hk : 0 ≤ k ∧ k < 32) : CF 0 mX8_has [vI x, vI k] σ α (some (vI (b2i (hasB x k)))) σ α := by
  refine CG.of [some (vI x), some (vI k)] (by decide) (by simp [lvA]) rfl ?_
  refine v_iload_n iX8_has_0 rfl ?_
  refine v_iload_n iX8_has_1 rfl ?_
  refine v_ishr iX8_has_2 (by omega) (by omega) ?_
  refine v_iconst iX8_has_3 ?_
  refine v_iand1 iX8_has_4 (by exact div_pow_nn hx.1 _) ?_
  refine v_iconst iX8_has_5 ?_
  refine v_icmp_ne (tgt := 13) iX8_has_6 (by decide) (by omega) (fun h6 => ?_) (fun h6 => ?_)
  · refine v_iconst iX8_has_13 ?_
    exact r_b iX8_has_14 rfl (by first | exact b2i_01 _ | decide | omega) (⟨cf_i (by unfold hasB; first | exact (b2i_pos (by omega)).symm | exact (b2i_neg (by omega)).symm), rfl, rfl⟩)
  · refine v_iconst iX8_has_9 ?_
    refine v_goto (tgt := 14) iX8_has_10 (by decide) ?_
    exact r_b iX8_has_14 rfl (by first | exact b2i_01 _ | decide | omega) (⟨cf_i (by unfold hasB; first | exact (b2i_pos (by omega)).symm | exact (b2i_neg (by omega)).symm), rfl, rfl⟩)

set_option maxHeartbeats 4000000 in
set_option maxRecDepth 100000 in
theorem qX8_ones (σ α : St) (x : Int) (hx : 0 ≤ x ∧ x ≤ 2147483647) : CF 0 mX8_ones [vI x] σ α (some (vI (onesU x 10))) σ α := by
  refine CG.of [some (vI x), none, none] (by decide) (by simp [lvA]) rfl ?_
  refine v_iconst iX8_ones_0 ?_
  refine v_is1 iX8_ones_1 ⟨rfl, rfl⟩ ?_
  refine v_iconst iX8_ones_2 ?_
  refine v_is2 iX8_ones_3 ⟨rfl, rfl⟩ ?_
  refine ind_up (P := fun k => VV 0 mX8_ones [vI x] _ σ α 4 [some (vI x), some (vI (onesU x k)), some (vI (k : Int))] []) 10 ?_ 0 (by omega)
  intro k hk ih
  refine v_iload_n iX8_ones_4 rfl ?_
  refine v_bipush iX8_ones_5 (by decide) ?_
  refine v_icmp_ge (tgt := 24) iX8_ones_7 (by decide) (by omega) (fun h7 => ?_) (fun h7 => ?_)
  · have hk10 : k = 10 := by omega
    subst hk10
    refine v_iload_n iX8_ones_24 rfl ?_
    exact r_i iX8_ones_25 rfl (⟨cf_i (by rfl), rfl, rfl⟩)
  · have hk10 : k < 10 := by omega
    refine v_iload_n iX8_ones_10 rfl ?_
    refine v_iload_n iX8_ones_11 rfl ?_
    refine v_iload_n iX8_ones_12 rfl ?_
    refine v_ishr iX8_ones_13 (by omega) (by omega) ?_
    refine v_iconst iX8_ones_14 ?_
    refine v_iand1 iX8_ones_15 (by exact div_pow_nn hx.1 _) ?_
    refine v_iadd iX8_ones_16 ?_
    refine v_is1 iX8_ones_17 ⟨rfl, rfl⟩ ?_
    refine v_in2 iX8_ones_18 ⟨rfl, rfl⟩ ?_
    refine v_goto (tgt := 4) iX8_ones_21 (by decide) ?_
    rw [show ((k : Int) + 1) = ((k + 1 : Nat) : Int) from by omega]
    exact ih (by omega)

set_option maxHeartbeats 4000000 in
set_option maxRecDepth 100000 in
theorem qX8_isSmall (σ α : St) (x : Int) (hx : InR x) : CF 1 mX8_isSmall [vI x] σ α (some (vI (b2i (decide (97 ≤ x ∧ x ≤ 122))))) σ α := by
  refine CG.of [some (vI x)] (by decide) (by simp [lvA]) rfl ?_
  refine v_iload_n iX8_isSmall_0 rfl ?_
  refine v_i2l iX8_isSmall_1 (by omega) ?_
  refine v_ldc2 iX8_isSmall_2 gX8_69 ?_
  refine v_ldc2 iX8_isSmall_5 gX8_71 ?_
  refine c_S1 (Mc := mX8_in) iX8_isSmall_8 lX8_62 kX8_in (qX8_in _ _ _ _ _ hx (by decide) (by decide)) (by decide) rfl rfl (Nat.le_of_ble_eq_true rfl) ?_
  exact r_b iX8_isSmall_11 rfl (by first | exact b2i_01 _ | decide | omega) (⟨cf_i (by rfl), rfl, rfl⟩)

set_option maxHeartbeats 4000000 in
set_option maxRecDepth 100000 in
theorem qX8_isDigit (σ α : St) (x : Int) (hx : InR x) : CF 1 mX8_isDigit [vI x] σ α (some (vI (b2i (decide (48 ≤ x ∧ x ≤ 57))))) σ α := by
  refine CG.of [some (vI x)] (by decide) (by simp [lvA]) rfl ?_
  refine v_iload_n iX8_isDigit_0 rfl ?_
  refine v_i2l iX8_isDigit_1 (by omega) ?_
  refine v_ldc2 iX8_isDigit_2 gX8_73 ?_
  refine v_ldc2 iX8_isDigit_5 gX8_75 ?_
  refine c_S1 (Mc := mX8_in) iX8_isDigit_8 lX8_62 kX8_in (qX8_in _ _ _ _ _ hx (by decide) (by decide)) (by decide) rfl rfl (Nat.le_of_ble_eq_true rfl) ?_
  exact r_b iX8_isDigit_11 rfl (by first | exact b2i_01 _ | decide | omega) (⟨cf_i (by rfl), rfl, rfl⟩)

set_option maxHeartbeats 4000000 in
set_option maxRecDepth 100000 in
theorem qX8_isSection (σ α : St) (n : Nat) (i : Int) (hi : InR i) (hn : σ 95 1 = (n : Int)) (hn10 : n ≤ 10) : CF 1 mX8_isSection [vR 95, vI i] σ α (some (vI (b2i (decide (0 ≤ i ∧ i ≤ (n : Int) - 1))))) σ α := by
  refine CG.of [some (vR 95), some (vI i)] (by decide) (by simp [lvA]) rfl ?_
  refine v_iload_n iX8_isSection_0 rfl ?_
  refine v_i2l iX8_isSection_1 (by omega) ?_
  refine v_lconst (z := 0) iX8_isSection_2 rfl ?_
  refine v_aload_n iX8_isSection_3 rfl ?_
  refine v_getI iX8_isSection_4 fX8_57 rfl rfl (by exact hn) ?_
  refine v_iconst iX8_isSection_7 ?_
  refine v_isub iX8_isSection_8 ?_
  refine v_i2l iX8_isSection_9 (by omega) ?_
  refine c_S1 (Mc := mX8_in) iX8_isSection_10 lX8_62 kX8_in (qX8_in _ _ _ _ _ hi (by decide) (by omega)) (by decide) rfl rfl (Nat.le_of_ble_eq_true rfl) ?_
  exact r_b iX8_isSection_13 rfl (by first | exact b2i_01 _ | decide | omega) (⟨cf_i (by rfl), rfl, rfl⟩)

set_option maxHeartbeats 4000000 in
set_option maxRecDepth 100000 in
theorem qX8_skinOf (σ α : St) (i : Int) (hi : 0 ≤ i ∧ i < 10) : CF 0 mX8_skinOf [vR 95, vI i] σ α (some (vI (α 98 i.toNat + 10 * α 96 (19 + i.toNat)))) σ α := by
  refine CG.of [some (vR 95), some (vI i)] (by decide) (by simp [lvA]) rfl ?_
  refine v_aload_n iX8_skinOf_0 rfl ?_
  refine v_getR iX8_skinOf_1 fX8_16 rfl rfl ?_
  refine v_iload_n iX8_skinOf_4 rfl ?_
  refine v_iaload iX8_skinOf_5 rfl (by omega) rfl ?_
  refine v_bipush iX8_skinOf_6 (by decide) ?_
  refine v_aload_n iX8_skinOf_8 rfl ?_
  refine v_getR iX8_skinOf_9 fX8_7 rfl rfl ?_
  refine v_bipush iX8_skinOf_12 (by decide) ?_
  refine v_iload_n iX8_skinOf_14 rfl ?_
  refine v_iadd iX8_skinOf_15 ?_
  refine v_iaload iX8_skinOf_16 rfl (by omega) rfl ?_
  refine v_imul iX8_skinOf_17 ?_
  refine v_iadd iX8_skinOf_18 ?_
  exact r_i iX8_skinOf_19 rfl (⟨cf_i (by rw [show (19 + i).toNat = 19 + i.toNat by omega]), rfl, rfl⟩)

theorem RV.sk {σ α : St} {n : Nat} {V B N : Nat → Int} (h : RV σ α n V B N) (hn : n ≤ 10) (i : Int) (hi : 0 ≤ i ∧ i < n) : CF 0 mX8_skinOf [vR 95, vI i] σ α (some (vI (B i.toNat))) σ α := by
  rw [← (h.2 i.toNat (by omega)).2.1]
  exact qX8_skinOf σ α i (by omega)

set_option maxHeartbeats 4000000 in
set_option maxRecDepth 100000 in
theorem qX8_isLater (σ α : St) {n : Nat} {V B N : Nat → Int} (hR : RV σ α n V B N) (hW : WF n V B N) (i j : Int) (hi : 0 ≤ i ∧ i < n) (hj : 0 ≤ j ∧ j < n) : CF 1 mX8_isLater [vR 95, vI i, vI j] σ α (some (vI (b2i (ltr V B i.toNat j.toNat)))) σ α := by
  have h10 := hW.1
  have hwi := hW.2 i.toNat (by omega)
  have hwj := hW.2 j.toNat (by omega)
  have b1 := prod_b (x := V i.toNat) (y := B j.toNat) (a := 99) (b := 189) (by omega) (by omega)
  have b2 := prod_b (x := V j.toNat) (y := B i.toNat) (a := 99) (b := 189) (by omega) (by omega)
  refine CG.of [some (vR 95), some (vI i), some (vI j), none, none] (by decide) (by simp [lvA]) rfl ?_
  refine v_aload_n iX8_isLater_0 rfl ?_
  refine v_getR iX8_isLater_1 fX8_13 rfl rfl ?_
  refine v_iload_n iX8_isLater_4 rfl ?_
  refine v_iaload iX8_isLater_5 rfl (by omega) (by exact (hR.2 i.toNat (by omega)).1) ?_
  refine v_aload_n iX8_isLater_6 rfl ?_
  refine v_iload_n iX8_isLater_7 rfl ?_
  refine c_V1 (Mc := mX8_skinOf) iX8_isLater_8 lX8_147 kX8_skinOf (hR.sk h10 j hj) (by decide) rfl rfl rfl rfl (Nat.le_of_ble_eq_true rfl) ?_
  refine v_imul iX8_isLater_11 ?_
  refine v_is3 iX8_isLater_12 ⟨rfl, rfl⟩ ?_
  refine v_aload_n iX8_isLater_13 rfl ?_
  refine v_getR iX8_isLater_14 fX8_13 rfl rfl ?_
  refine v_iload_n iX8_isLater_17 rfl ?_
  refine v_iaload iX8_isLater_18 rfl (by omega) (by exact (hR.2 j.toNat (by omega)).1) ?_
  refine v_aload_n iX8_isLater_19 rfl ?_
  refine v_iload_n iX8_isLater_20 rfl ?_
  refine c_V1 (Mc := mX8_skinOf) iX8_isLater_21 lX8_147 kX8_skinOf (hR.sk h10 i hi) (by decide) rfl rfl rfl rfl (Nat.le_of_ble_eq_true rfl) ?_
  refine v_imul iX8_isLater_24 ?_
  refine v_is4 iX8_isLater_25 ⟨rfl, rfl⟩ ?_
  refine v_iload_n iX8_isLater_27 rfl ?_
  refine v_iload iX8_isLater_28 rfl ?_
  refine v_icmp_gt (tgt := 44) iX8_isLater_30 (by decide) (by omega) (fun h30 => ?_) (fun h30 => ?_)
  · refine v_iconst iX8_isLater_44 ?_
    refine v_goto (tgt := 49) iX8_isLater_45 (by decide) ?_
    exact r_b iX8_isLater_49 rfl (by first | exact b2i_01 _ | decide | omega) (⟨cf_i (by unfold ltr; first | exact (b2i_pos (by omega)).symm | exact (b2i_neg (by omega)).symm), rfl, rfl⟩)
  · refine v_iload_n iX8_isLater_33 rfl ?_
    refine v_iload iX8_isLater_34 rfl ?_
    refine v_icmp_ne (tgt := 48) iX8_isLater_36 (by decide) (by omega) (fun h36 => ?_) (fun h36 => ?_)
    · refine v_iconst iX8_isLater_48 ?_
      exact r_b iX8_isLater_49 rfl (by first | exact b2i_01 _ | decide | omega) (⟨cf_i (by unfold ltr; first | exact (b2i_pos (by omega)).symm | exact (b2i_neg (by omega)).symm), rfl, rfl⟩)
    · refine v_iload_n iX8_isLater_39 rfl ?_
      refine v_iload_n iX8_isLater_40 rfl ?_
      refine v_icmp_ge (tgt := 48) iX8_isLater_41 (by decide) (by omega) (fun h41 => ?_) (fun h41 => ?_)
      · refine v_iconst iX8_isLater_48 ?_
        exact r_b iX8_isLater_49 rfl (by first | exact b2i_01 _ | decide | omega) (⟨cf_i (by unfold ltr; first | exact (b2i_pos (by omega)).symm | exact (b2i_neg (by omega)).symm), rfl, rfl⟩)
      · refine v_iconst iX8_isLater_44 ?_
        refine v_goto (tgt := 49) iX8_isLater_45 (by decide) ?_
        exact r_b iX8_isLater_49 rfl (by first | exact b2i_01 _ | decide | omega) (⟨cf_i (by unfold ltr; first | exact (b2i_pos (by omega)).symm | exact (b2i_neg (by omega)).symm), rfl, rfl⟩)

set_option maxHeartbeats 4000000 in
set_option maxRecDepth 100000 in
theorem qX8_latest (σ α : St) {n : Nat} {V B N : Nat → Int} (hR : RV σ α n V B N) (hW : WF n V B N) (m : Int) (hm : 0 ≤ m ∧ m ≤ 2147483647) : CF 2 mX8_latest [vR 95, vI m] σ α (some (vI (latU V B m n))) σ α := by
  have h10 := hW.1
  refine CG.of [some (vR 95), some (vI m), none, none] (by decide) (by simp [lvA]) rfl ?_
  refine v_iconst iX8_latest_0 ?_
  refine v_is2 iX8_latest_1 ⟨rfl, rfl⟩ ?_
  refine v_iconst iX8_latest_2 ?_
  refine v_is3 iX8_latest_3 ⟨rfl, rfl⟩ ?_
  refine ind_up (P := fun k => VV 2 mX8_latest [vR 95, vI m] _ σ α 4 [some (vR 95), some (vI m), some (vI (latU V B m k)), some (vI (k : Int))] []) n ?_ 0 (by omega)
  intro k hk ih
  have hr := latU_r V B m k
  refine v_iload_n iX8_latest_4 rfl ?_
  refine v_aload_n iX8_latest_5 rfl ?_
  refine v_getI iX8_latest_6 fX8_57 rfl rfl (by exact hR.1) ?_
  refine v_icmp_ge (tgt := 46) iX8_latest_9 (by decide) (by omega) (fun h9 => ?_) (fun h9 => ?_)
  · have hkn : k = n := by omega
    subst hkn
    refine v_iload_n iX8_latest_46 rfl ?_
    exact r_i iX8_latest_47 rfl (⟨cf_i (by rfl), rfl, rfl⟩)
  · refine v_iload_n iX8_latest_12 rfl ?_
    refine v_iload_n iX8_latest_13 rfl ?_
    refine c_S1 (Mc := mX8_has) iX8_latest_14 lX8_151 kX8_has (qX8_has _ _ m k (by omega) (by omega)) (by decide) rfl rfl (Nat.le_of_ble_eq_true rfl) ?_
    refine v_bif_eq (tgt := 38) iX8_latest_17 (by decide) (fun h17 => ?_) (fun h17 => ?_)
    · try simp only [Int.toNat_natCast] at h17
      refine v_iload_n iX8_latest_38 rfl ?_
      refine v_is2 iX8_latest_39 ⟨rfl, rfl⟩ ?_
      refine v_in3 iX8_latest_40 ⟨rfl, rfl⟩ ?_
      refine v_goto (tgt := 4) iX8_latest_43 (by decide) ?_
      exact (ih (by omega)).as rfl rfl (by simp [latU, *]) rfl
    · try simp only [Int.toNat_natCast] at h17
      refine v_iload_n iX8_latest_20 rfl ?_
      refine v_iconst iX8_latest_21 ?_
      refine v_icmp_eq (tgt := 34) iX8_latest_22 (by decide) (by omega) (fun h22 => ?_) (fun h22 => ?_)
      · refine v_iload_n iX8_latest_34 rfl ?_
        refine v_goto (tgt := 39) iX8_latest_35 (by decide) ?_
        refine v_is2 iX8_latest_39 ⟨rfl, rfl⟩ ?_
        refine v_in3 iX8_latest_40 ⟨rfl, rfl⟩ ?_
        refine v_goto (tgt := 4) iX8_latest_43 (by decide) ?_
        exact (ih (by omega)).as rfl rfl (by simp [latU, *]) rfl
      · refine v_aload_n iX8_latest_25 rfl ?_
        refine v_iload_n iX8_latest_26 rfl ?_
        refine v_iload_n iX8_latest_27 rfl ?_
        refine c_V1 (Mc := mX8_isLater) iX8_latest_28 lX8_154 kX8_isLater (qX8_isLater σ α hR hW k _ (by omega) (by omega)) (by decide) rfl rfl rfl rfl (Nat.le_of_ble_eq_true rfl) ?_
        refine v_bif_eq (tgt := 38) iX8_latest_31 (by decide) (fun h31 => ?_) (fun h31 => ?_)
        · try simp only [Int.toNat_natCast] at h31
          refine v_iload_n iX8_latest_38 rfl ?_
          refine v_is2 iX8_latest_39 ⟨rfl, rfl⟩ ?_
          refine v_in3 iX8_latest_40 ⟨rfl, rfl⟩ ?_
          refine v_goto (tgt := 4) iX8_latest_43 (by decide) ?_
          exact (ih (by omega)).as rfl rfl (by simp [latU, *]) rfl
        · try simp only [Int.toNat_natCast] at h31
          refine v_iload_n iX8_latest_34 rfl ?_
          refine v_goto (tgt := 39) iX8_latest_35 (by decide) ?_
          refine v_is2 iX8_latest_39 ⟨rfl, rfl⟩ ?_
          refine v_in3 iX8_latest_40 ⟨rfl, rfl⟩ ?_
          refine v_goto (tgt := 4) iX8_latest_43 (by decide) ?_
          exact (ih (by omega)).as rfl rfl (by simp [latU, *]) rfl

set_option maxHeartbeats 4000000 in
set_option maxRecDepth 100000 in
theorem qX8_isTop (σ α : St) {n : Nat} {V B N : Nat → Int} (hR : RV σ α n V B N) (hW : WF n V B N) (i : Int) (hi : 0 ≤ i ∧ i < n) : CF 3 mX8_isTop [vR 95, vI i] σ α (some (vI (b2i (topR V B N n i.toNat)))) σ α := by
  have h10 := hW.1
  have hwi := hW.2 i.toNat (by omega)
  have hr := latU_r V B (N i.toNat) n
  refine CG.of [some (vR 95), some (vI i), none] (by decide) (by simp [lvA]) rfl ?_
  refine v_aload_n iX8_isTop_0 rfl ?_
  refine v_aload_n iX8_isTop_1 rfl ?_
  refine v_getR iX8_isTop_2 fX8_19 rfl rfl ?_
  refine v_iload_n iX8_isTop_5 rfl ?_
  refine v_iaload iX8_isTop_6 rfl (by omega) (by exact (hR.2 i.toNat (by omega)).2.2) ?_
  refine c_V1 (Mc := mX8_latest) iX8_isTop_7 lX8_157 kX8_latest (qX8_latest σ α hR hW _ (by omega)) (by decide) rfl rfl rfl rfl (Nat.le_of_ble_eq_true rfl) ?_
  refine v_is2 iX8_isTop_10 ⟨rfl, rfl⟩ ?_
  refine v_iload_n iX8_isTop_11 rfl ?_
  refine v_iconst iX8_isTop_12 ?_
  refine v_icmp_eq (tgt := 25) iX8_isTop_13 (by decide) (by omega) (fun h13 => ?_) (fun h13 => ?_)
  · refine v_iconst iX8_isTop_25 ?_
    refine v_goto (tgt := 30) iX8_isTop_26 (by decide) ?_
    exact r_b iX8_isTop_30 rfl (by first | exact b2i_01 _ | decide | omega) (⟨cf_i (by simp [topR, b2i, *]), rfl, rfl⟩)
  · refine v_aload_n iX8_isTop_16 rfl ?_
    refine v_iload_n iX8_isTop_17 rfl ?_
    refine v_iload_n iX8_isTop_18 rfl ?_
    refine c_V1 (Mc := mX8_isLater) iX8_isTop_19 lX8_154 kX8_isLater (qX8_isLater σ α hR hW i _ (by omega) (by omega)) (by decide) rfl rfl rfl rfl (Nat.le_of_ble_eq_true rfl) ?_
    refine v_bif_eq (tgt := 29) iX8_isTop_22 (by decide) (fun h22 => ?_) (fun h22 => ?_)
    · try simp only [Int.toNat_natCast] at h22
      refine v_iconst iX8_isTop_29 ?_
      exact r_b iX8_isTop_30 rfl (by first | exact b2i_01 _ | decide | omega) (⟨cf_i (by simp [topR, b2i, *]), rfl, rfl⟩)
    · try simp only [Int.toNat_natCast] at h22
      refine v_iconst iX8_isTop_25 ?_
      refine v_goto (tgt := 30) iX8_isTop_26 (by decide) ?_
      exact r_b iX8_isTop_30 rfl (by first | exact b2i_01 _ | decide | omega) (⟨cf_i (by simp [topR, b2i, *]), rfl, rfl⟩)

set_option maxHeartbeats 4000000 in
set_option maxRecDepth 100000 in
theorem qX8_tops (σ α : St) {n : Nat} {V B N : Nat → Int} (hR : RV σ α n V B N) (hW : WF n V B N) : CF 4 mX8_tops [vR 95] σ α (some (vI (msk (topR V B N n) n : Nat))) σ α := by
  have h10 := hW.1
  refine CG.of [some (vR 95), none, none] (by decide) (by simp [lvA]) rfl ?_
  refine v_iconst iX8_tops_0 ?_
  refine v_is1 iX8_tops_1 ⟨rfl, rfl⟩ ?_
  refine v_iconst iX8_tops_2 ?_
  refine v_is2 iX8_tops_3 ⟨rfl, rfl⟩ ?_
  refine ind_up (P := fun k => VV 4 mX8_tops [vR 95] _ σ α 4 [some (vR 95), some (vI (msk (topR V B N n) k : Nat)), some (vI (k : Int))] []) n ?_ 0 (by omega)
  intro k hk ih
  refine v_iload_n iX8_tops_4 rfl ?_
  refine v_aload_n iX8_tops_5 rfl ?_
  refine v_getI iX8_tops_6 fX8_57 rfl rfl (by exact hR.1) ?_
  refine v_icmp_ge (tgt := 36) iX8_tops_9 (by decide) (by omega) (fun h9 => ?_) (fun h9 => ?_)
  · have hkn : k = n := by omega
    subst hkn
    refine v_iload_n iX8_tops_36 rfl ?_
    exact r_i iX8_tops_37 rfl (⟨cf_i (by rfl), rfl, rfl⟩)
  · refine v_iload_n iX8_tops_12 rfl ?_
    refine v_aload_n iX8_tops_13 rfl ?_
    refine v_iload_n iX8_tops_14 rfl ?_
    refine c_V1 (Mc := mX8_isTop) iX8_tops_15 lX8_160 kX8_isTop (qX8_isTop σ α hR hW k (by omega)) (by decide) rfl rfl rfl rfl (Nat.le_of_ble_eq_true rfl) ?_
    refine v_bif_eq (tgt := 27) iX8_tops_18 (by decide) (fun h18 => ?_) (fun h18 => ?_)
    · try simp only [Int.toNat_natCast] at h18
      refine v_iconst iX8_tops_27 ?_
      refine v_ior iX8_tops_28 (by refine ⟨?_, ?_⟩ <;> first | exact Int.natCast_nonneg _ | omega) ?_
      refine v_is1 iX8_tops_29 ⟨rfl, rfl⟩ ?_
      refine v_in2 iX8_tops_30 ⟨rfl, rfl⟩ ?_
      refine v_goto (tgt := 4) iX8_tops_33 (by decide) ?_
      exact (ih (by omega)).as rfl rfl (by simp only [msk, h18, Int.toNat_natCast]; rfl) rfl
    · try simp only [Int.toNat_natCast] at h18
      refine v_iconst iX8_tops_21 ?_
      refine v_iload_n iX8_tops_22 rfl ?_
      refine v_ishl1 iX8_tops_23 (by omega) ?_
      refine v_goto (tgt := 28) iX8_tops_24 (by decide) ?_
      refine v_ior iX8_tops_28 (by refine ⟨?_, ?_⟩ <;> first | exact Int.natCast_nonneg _ | omega) ?_
      refine v_is1 iX8_tops_29 ⟨rfl, rfl⟩ ?_
      refine v_in2 iX8_tops_30 ⟨rfl, rfl⟩ ?_
      refine v_goto (tgt := 4) iX8_tops_33 (by decide) ?_
      exact (ih (by omega)).as rfl rfl (by simp only [msk, h18, Int.toNat_natCast]; rfl) rfl
