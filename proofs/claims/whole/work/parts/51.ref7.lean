set_option maxHeartbeats 4000000 in
set_option maxRecDepth 100000 in
theorem qX8_pass_o (σ α : St) {n : Nat} (hn : σ 95 1 = (n : Int)) (hn10 : n ≤ 10) (i j : Int) (hi : InR i) (hj : InR j) (hbad : ¬ ((0 ≤ i ∧ i ≤ (n : Int) - 1) ∧ (0 ≤ j ∧ j ≤ (n : Int) - 1) ∧ i ≠ j)) : CF 2 mX8_pass [vR 95, vI i, vI j] σ α (some (vI (-2))) (σ) (α) := by
  refine CG.of [some (vR 95), some (vI i), some (vI j), none, none] (by decide) (by simp [lvA]) rfl ?_
  refine v_aload_n iX8_pass_0 rfl ?_
  refine v_iload_n iX8_pass_1 rfl ?_
  refine c_V1 (Mc := mX8_isSection) iX8_pass_2 lX8_204 kX8_isSection (qX8_isSection σ α n i hi hn hn10) (by decide) rfl rfl rfl rfl (Nat.le_of_ble_eq_true rfl) ?_
  try simp only [Int.toNat_natCast]
  refine v_bif_eq (tgt := 21) iX8_pass_5 (by decide) (fun h5 => ?_) (fun h5 => ?_)
  · try simp only [Int.toNat_natCast] at h5
    refine v_bipush iX8_pass_21 (by decide) ?_
    exact r_i iX8_pass_23 rfl (⟨cf_i (by rfl), rfl, rfl⟩)
  · try simp only [Int.toNat_natCast] at h5
    refine v_aload_n iX8_pass_8 rfl ?_
    refine v_iload_n iX8_pass_9 rfl ?_
    refine c_V1 (Mc := mX8_isSection) iX8_pass_10 lX8_204 kX8_isSection (qX8_isSection σ α n j hj hn hn10) (by decide) rfl rfl rfl rfl (Nat.le_of_ble_eq_true rfl) ?_
    try simp only [Int.toNat_natCast]
    refine v_bif_eq (tgt := 21) iX8_pass_13 (by decide) (fun h13 => ?_) (fun h13 => ?_)
    · try simp only [Int.toNat_natCast] at h13
      refine v_bipush iX8_pass_21 (by decide) ?_
      exact r_i iX8_pass_23 rfl (⟨cf_i (by rfl), rfl, rfl⟩)
    · try simp only [Int.toNat_natCast] at h13
      refine v_iload_n iX8_pass_16 rfl ?_
      refine v_iload_n iX8_pass_17 rfl ?_
      refine v_icmp_ne (tgt := 24) iX8_pass_18 (by decide) (by omega) (fun h18 => (by exfalso; simp at h5 h13; omega)) (fun h18 => ?_)
      refine v_bipush iX8_pass_21 (by decide) ?_
      exact r_i iX8_pass_23 rfl (⟨cf_i (by rfl), rfl, rfl⟩)

set_option maxHeartbeats 4000000 in
set_option maxRecDepth 100000 in
theorem qX8_move_o (σ α : St) {n : Nat} (hn : σ 95 1 = (n : Int)) (hn10 : n ≤ 10) (i j : Int) (hi : InR i) (hj : InR j) (hbad : ¬ ((0 ≤ i ∧ i ≤ (n : Int) - 1) ∧ (0 ≤ j ∧ j ≤ (n : Int) - 1) ∧ i ≠ j)) (v : Int) : CF 2 mX8_move [vR 95, vI i, vI j, vI v] σ α (some (vI (-2))) (σ) (α) := by
  refine CG.of [some (vR 95), some (vI i), some (vI j), some (vI v)] (by decide) (by simp [lvA]) rfl ?_
  refine v_aload_n iX8_move_0 rfl ?_
  refine v_iload_n iX8_move_1 rfl ?_
  refine c_V1 (Mc := mX8_isSection) iX8_move_2 lX8_204 kX8_isSection (qX8_isSection σ α n i hi hn hn10) (by decide) rfl rfl rfl rfl (Nat.le_of_ble_eq_true rfl) ?_
  try simp only [Int.toNat_natCast]
  refine v_bif_eq (tgt := 21) iX8_move_5 (by decide) (fun h5 => ?_) (fun h5 => ?_)
  · try simp only [Int.toNat_natCast] at h5
    refine v_bipush iX8_move_21 (by decide) ?_
    exact r_i iX8_move_23 rfl (⟨cf_i (by rfl), rfl, rfl⟩)
  · try simp only [Int.toNat_natCast] at h5
    refine v_aload_n iX8_move_8 rfl ?_
    refine v_iload_n iX8_move_9 rfl ?_
    refine c_V1 (Mc := mX8_isSection) iX8_move_10 lX8_204 kX8_isSection (qX8_isSection σ α n j hj hn hn10) (by decide) rfl rfl rfl rfl (Nat.le_of_ble_eq_true rfl) ?_
    try simp only [Int.toNat_natCast]
    refine v_bif_eq (tgt := 21) iX8_move_13 (by decide) (fun h13 => ?_) (fun h13 => ?_)
    · try simp only [Int.toNat_natCast] at h13
      refine v_bipush iX8_move_21 (by decide) ?_
      exact r_i iX8_move_23 rfl (⟨cf_i (by rfl), rfl, rfl⟩)
    · try simp only [Int.toNat_natCast] at h13
      refine v_iload_n iX8_move_16 rfl ?_
      refine v_iload_n iX8_move_17 rfl ?_
      refine v_icmp_ne (tgt := 24) iX8_move_18 (by decide) (by omega) (fun h18 => (by exfalso; simp at h5 h13; omega)) (fun h18 => ?_)
      refine v_bipush iX8_move_21 (by decide) ?_
      exact r_i iX8_move_23 rfl (⟨cf_i (by rfl), rfl, rfl⟩)

set_option maxHeartbeats 4000000 in
set_option maxRecDepth 100000 in
theorem qX8_need (σ α : St) {n : Nat} {V B N : Nat → Int} (hR : RV σ α n V B N) (hW : WF n V B N) {a b c : Int} (hU : RU σ a b c) (i : Nat) (hi : i < n) (k : Int) (hk : InR k) : CF 4 mX8_need [vR 95, vI (i : Int), vI k] σ α (some (vI (if 1 ≤ k ∧ k ≤ 99 then (if topR V B N n i then fst1 (fun v => outl a b V B v k i) 999 1 else -4) else -3))) (σ) (α) := by
  have hn10 := hW.1
  refine CG.of [some (vR 95), some (vI (i : Int)), some (vI k), none] (by decide) (by simp [lvA]) rfl ?_
  refine v_aload_n iX8_need_0 rfl ?_
  refine v_iload_n iX8_need_1 rfl ?_
  refine c_V1 (Mc := mX8_isSection) iX8_need_2 lX8_204 kX8_isSection (qX8_isSection σ α n i (by omega) hR.1 hn10) (by decide) rfl rfl rfl rfl (Nat.le_of_ble_eq_true rfl) ?_
  try simp only [Int.toNat_natCast]
  refine v_bif_ne (tgt := 11) iX8_need_5 (by decide) (fun h5 => ?_) (fun h5 => (by exfalso; simp at h5; omega))
  refine v_iload_n iX8_need_11 rfl ?_
  refine v_i2l iX8_need_12 (by omega) ?_
  refine v_lconst (z := 1) iX8_need_13 rfl ?_
  refine v_ldc2 iX8_need_14 gX8_218 ?_
  refine c_S1 (Mc := mX8_in) iX8_need_17 lX8_62 kX8_in (qX8_in _ _ _ _ _ hk (by decide) (by decide)) (by decide) rfl rfl (Nat.le_of_ble_eq_true rfl) ?_
  try simp only [Int.toNat_natCast]
  refine v_bif_ne (tgt := 26) iX8_need_20 (by decide) (fun h20 => ?_) (fun h20 => ?_)
  · try simp only [Int.toNat_natCast] at h20
    simp only [decide_eq_true_eq] at h20
    refine v_aload_n iX8_need_26 rfl ?_
    refine v_iload_n iX8_need_27 rfl ?_
    refine c_V1 (Mc := mX8_isTop) iX8_need_28 lX8_160 kX8_isTop (qX8_isTop σ α hR hW i (by omega)) (by decide) rfl rfl rfl rfl (Nat.le_of_ble_eq_true rfl) ?_
    try simp only [Int.toNat_natCast]
    refine v_bif_ne (tgt := 37) iX8_need_31 (by decide) (fun h31 => ?_) (fun h31 => ?_)
    · try simp only [Int.toNat_natCast] at h31
      refine v_iconst iX8_need_37 ?_
      refine v_is3 iX8_need_38 ⟨rfl, rfl⟩ ?_
      have key := ind_up (P := fun j => 1 ≤ j → fst1 (fun v => outl a b V B v k i) 999 1 = fst1 (fun v => outl a b V B v k i) (1000 - j) j → VV 4 mX8_need [vR 95, vI (i : Int), vI k] (fun r' s' a' => r' = some (vI (if 1 ≤ k ∧ k ≤ 99 then (if topR V B N n i then fst1 (fun v => outl a b V B v k i) 999 1 else -4) else -3)) ∧ s' = σ ∧ a' = α) σ α 39 [some (vR 95), some (vI (i : Int)), some (vI k), some (vI (j : Int))] []) 1000 ?_ 1 (by omega)
      · exact key (by omega) rfl
      intro j hj ih hj1 e1
      refine v_iload_n iX8_need_39 rfl ?_
      refine v_sipush iX8_need_40 (by decide) ?_
      refine v_icmp_ge (tgt := 62) iX8_need_43 (by decide) (by omega) (fun h43 => ?_) (fun h43 => ?_)
      · refine v_iload_n iX8_need_62 rfl ?_
        refine v_sipush iX8_need_63 (by decide) ?_
        refine v_icmp_ge (tgt := 73) iX8_need_66 (by decide) (by omega) (fun h66 => ?_) (fun h66 => ?_)
        · (try rw [show 1000 - j = 0 by omega] at e1)
          refine v_iconst iX8_need_73 ?_
          exact r_i iX8_need_74 rfl (by first | exact ⟨cf_i (by rw [if_pos h20, if_pos h31, e1]; exact (fst1_y (p := (fun v => outl a b V B v k i)) h53).symm), rfl, rfl⟩ | exact ⟨cf_i (by rw [if_pos h20, if_pos h31, e1]; rfl), rfl, rfl⟩ | (exfalso; omega))
        · refine v_iload_n iX8_need_69 rfl ?_
          refine v_goto (tgt := 74) iX8_need_70 (by decide) ?_
          exact r_i iX8_need_74 rfl (by first | exact ⟨cf_i (by rw [if_pos h20, if_pos h31, e1]; exact (fst1_y (p := (fun v => outl a b V B v k i)) h53).symm), rfl, rfl⟩ | exact ⟨cf_i (by rw [if_pos h20, if_pos h31, e1]; rfl), rfl, rfl⟩ | (exfalso; omega))
      · rw [show 1000 - j = (1000 - (j + 1)) + 1 by omega] at e1
        refine v_aload_n iX8_need_46 rfl ?_
        refine v_iload_n iX8_need_47 rfl ?_
        refine v_iload_n iX8_need_48 rfl ?_
        refine v_iload_n iX8_need_49 rfl ?_
        refine c_V1 (Mc := mX8_outlasts) iX8_need_50 lX8_188 kX8_outlasts (qX8_outlasts σ α hR hW a b hU.1 hU.2.2.2.1 hU.2.1 hU.2.2.2.2.1 j k i (by omega) (by omega) (by omega)) (by decide) rfl rfl rfl rfl (Nat.le_of_ble_eq_true rfl) ?_
        try simp only [Int.toNat_natCast]
        refine v_bif_ne (tgt := 62) iX8_need_53 (by decide) (fun h53 => ?_) (fun h53 => ?_)
        · try simp only [Int.toNat_natCast] at h53
          refine v_iload_n iX8_need_62 rfl ?_
          refine v_sipush iX8_need_63 (by decide) ?_
          refine v_icmp_ge (tgt := 73) iX8_need_66 (by decide) (by omega) (fun h66 => ?_) (fun h66 => ?_)
          · (try rw [show 1000 - j = 0 by omega] at e1)
            refine v_iconst iX8_need_73 ?_
            exact r_i iX8_need_74 rfl (by first | exact ⟨cf_i (by rw [if_pos h20, if_pos h31, e1]; exact (fst1_y (p := (fun v => outl a b V B v k i)) h53).symm), rfl, rfl⟩ | exact ⟨cf_i (by rw [if_pos h20, if_pos h31, e1]; rfl), rfl, rfl⟩ | (exfalso; omega))
          · refine v_iload_n iX8_need_69 rfl ?_
            refine v_goto (tgt := 74) iX8_need_70 (by decide) ?_
            exact r_i iX8_need_74 rfl (by first | exact ⟨cf_i (by rw [if_pos h20, if_pos h31, e1]; exact (fst1_y (p := (fun v => outl a b V B v k i)) h53).symm), rfl, rfl⟩ | exact ⟨cf_i (by rw [if_pos h20, if_pos h31, e1]; rfl), rfl, rfl⟩ | (exfalso; omega))
        · try simp only [Int.toNat_natCast] at h53
          refine v_in3 iX8_need_56 ⟨rfl, rfl⟩ ?_
          refine v_goto (tgt := 39) iX8_need_59 (by decide) ?_
          exact (ih (by omega) (by omega) (by rw [e1]; exact fst1_n h53)).as rfl rfl rfl rfl
    · try simp only [Int.toNat_natCast] at h31
      refine v_bipush iX8_need_34 (by decide) ?_
      exact r_i iX8_need_36 rfl (⟨cf_i (by rw [if_pos h20, if_neg (by rw [h31]; decide)]), rfl, rfl⟩)
  · try simp only [Int.toNat_natCast] at h20
    simp only [decide_eq_false_iff_not] at h20
    refine v_bipush iX8_need_23 (by decide) ?_
    exact r_i iX8_need_25 rfl (⟨cf_i (by rw [if_neg h20]), rfl, rfl⟩)

set_option maxHeartbeats 4000000 in
set_option maxRecDepth 100000 in
theorem qX8_order (σ α : St) {n : Nat} {V B N : Nat → Int} (hR : RV σ α n V B N) (hW : WF n V B N) (r : Int) (hr : InR r) : CF 2 mX8_order [vR 95, vI r] σ α (some (vI (if 0 ≤ r then fst1 (fun s => decide (rkU V B s n = r)) n 0 else -3))) (σ) (α) := by
  have hn10 := hW.1
  refine CG.of [some (vR 95), some (vI r), none, none, none] (by decide) (by simp [lvA]) rfl ?_
  refine v_iload_n iX8_order_0 rfl ?_
  refine v_if_ge (tgt := 7) iX8_order_1 (by decide) (by omega) (fun h1 => ?_) (fun h1 => ?_)
  · refine v_iconst iX8_order_7 ?_
    refine v_is2 iX8_order_8 ⟨rfl, rfl⟩ ?_
    have h1 : 0 ≤ r := by omega
    have key := ind_up (P := fun k => fst1 (fun s => decide (rkU V B s n = r)) n 0 = fst1 (fun s => decide (rkU V B s n = r)) (n - k) k → VV 2 mX8_order [vR 95, vI r] (fun r' s' a' => r' = some (vI (if 0 ≤ r then fst1 (fun s => decide (rkU V B s n = r)) n 0 else -3)) ∧ s' = σ ∧ a' = α) σ α 9 [some (vR 95), some (vI r), some (vI (k : Int)), none, none] []) n ?_ 0 (by omega)
    · exact key rfl
    intro k hk ih e1
    refine v_iload_n iX8_order_9 rfl ?_
    refine v_aload_n iX8_order_10 rfl ?_
    refine v_getI iX8_order_11 fX8_57 rfl rfl (by exact hR.1) ?_
    refine v_icmp_ge (tgt := 74) iX8_order_14 (by decide) (by omega) (fun h14 => ?_) (fun h14 => ?_)
    · rw [show n - k = 0 by omega] at e1
      refine v_iconst iX8_order_74 ?_
      exact r_i iX8_order_75 rfl (⟨cf_i (by rw [if_pos h1, e1]; rfl), rfl, rfl⟩)
    · refine v_iconst iX8_order_17 ?_
      refine v_is3 iX8_order_18 ⟨rfl, rfl⟩ ?_
      refine v_iconst iX8_order_19 ?_
      refine v_is4 iX8_order_20 ⟨rfl, rfl⟩ ?_
      refine ind_up (P := fun j => VV 2 mX8_order [vR 95, vI r] (fun r' s' a' => r' = some (vI (if 0 ≤ r then fst1 (fun s => decide (rkU V B s n = r)) n 0 else -3)) ∧ s' = σ ∧ a' = α) σ α 22 [some (vR 95), some (vI r), some (vI (k : Int)), some (vI (rkU V B k j)), some (vI (j : Int))] []) n ?_ 0 (by omega)
      intro j hj ihj
      refine v_iload iX8_order_22 rfl ?_
      refine v_aload_n iX8_order_24 rfl ?_
      refine v_getI iX8_order_25 fX8_57 rfl rfl (by exact hR.1) ?_
      refine v_icmp_ge (tgt := 61) iX8_order_28 (by decide) (by omega) (fun h28 => ?_) (fun h28 => ?_)
      · have hjn : n = j := by omega
        subst hjn
        rw [show n - k = (n - (k + 1)) + 1 by omega] at e1
        have hrk := rkU_r V B k n
        refine v_iload_n iX8_order_61 rfl ?_
        refine v_iload_n iX8_order_62 rfl ?_
        refine v_icmp_ne (tgt := 68) iX8_order_63 (by decide) (by omega) (fun h63 => ?_) (fun h63 => ?_)
        · refine v_in2 iX8_order_68 ⟨rfl, rfl⟩ ?_
          refine v_goto (tgt := 9) iX8_order_71 (by decide) ?_
          exact (ih (by omega) (by rw [e1]; exact fst1_n (by simp [h63]))).asw rfl rfl ⟨rfl, rfl, rfl, trivial⟩ rfl
        · refine v_iload_n iX8_order_66 rfl ?_
          exact r_i iX8_order_67 rfl (⟨cf_i (by rw [if_pos h1, e1]; exact (fst1_y (p := (fun s => decide (rkU V B s n = r))) (by simp [h63])).symm), rfl, rfl⟩)
      · have hrk := rkU_r V B k j
        refine v_iload_n iX8_order_31 rfl ?_
        refine v_iload iX8_order_32 rfl ?_
        refine v_iload_n iX8_order_34 rfl ?_
        refine v_icmp_eq (tgt := 52) iX8_order_35 (by decide) (by omega) (fun h35 => ?_) (fun h35 => ?_)
        · refine v_iconst iX8_order_52 ?_
          refine v_iadd iX8_order_53 ?_
          refine v_is3 iX8_order_54 ⟨rfl, rfl⟩ ?_
          refine v_in4 iX8_order_55 ⟨rfl, rfl⟩ ?_
          refine v_goto (tgt := 22) iX8_order_58 (by decide) ?_
          refine (ihj (by omega)).asw rfl rfl ⟨rfl, rfl, rfl, cf_i ?_, rfl, trivial⟩ rfl
          first
            | (rw [rkU, if_pos (show (decide (j ≠ k) && ltr V B k j) = true by rw [h45, decide_eq_true (by omega)]; rfl)])
            | (rw [rkU, if_neg (show ¬ (decide (j ≠ k) && ltr V B k j) = true by rw [h45]; simp)])
            | (rw [rkU, if_neg (show ¬ (decide (j ≠ k) && ltr V B k j) = true by rw [decide_eq_false (by omega)]; simp)])
        · refine v_aload_n iX8_order_38 rfl ?_
          refine v_iload_n iX8_order_39 rfl ?_
          refine v_iload iX8_order_40 rfl ?_
          refine c_V1 (Mc := mX8_isLater) iX8_order_42 lX8_154 kX8_isLater (qX8_isLater σ α hR hW k j (by omega) (by omega)) (by decide) rfl rfl rfl rfl (Nat.le_of_ble_eq_true rfl) ?_
          try simp only [Int.toNat_natCast]
          refine v_bif_eq (tgt := 52) iX8_order_45 (by decide) (fun h45 => ?_) (fun h45 => ?_)
          · try simp only [Int.toNat_natCast] at h45
            refine v_iconst iX8_order_52 ?_
            refine v_iadd iX8_order_53 ?_
            refine v_is3 iX8_order_54 ⟨rfl, rfl⟩ ?_
            refine v_in4 iX8_order_55 ⟨rfl, rfl⟩ ?_
            refine v_goto (tgt := 22) iX8_order_58 (by decide) ?_
            refine (ihj (by omega)).asw rfl rfl ⟨rfl, rfl, rfl, cf_i ?_, rfl, trivial⟩ rfl
            first
              | (rw [rkU, if_pos (show (decide (j ≠ k) && ltr V B k j) = true by rw [h45, decide_eq_true (by omega)]; rfl)])
              | (rw [rkU, if_neg (show ¬ (decide (j ≠ k) && ltr V B k j) = true by rw [h45]; simp)])
              | (rw [rkU, if_neg (show ¬ (decide (j ≠ k) && ltr V B k j) = true by rw [decide_eq_false (by omega)]; simp)])
          · try simp only [Int.toNat_natCast] at h45
            refine v_iconst iX8_order_48 ?_
            refine v_goto (tgt := 53) iX8_order_49 (by decide) ?_
            refine v_iadd iX8_order_53 ?_
            refine v_is3 iX8_order_54 ⟨rfl, rfl⟩ ?_
            refine v_in4 iX8_order_55 ⟨rfl, rfl⟩ ?_
            refine v_goto (tgt := 22) iX8_order_58 (by decide) ?_
            refine (ihj (by omega)).asw rfl rfl ⟨rfl, rfl, rfl, cf_i ?_, rfl, trivial⟩ rfl
            first
              | (rw [rkU, if_pos (show (decide (j ≠ k) && ltr V B k j) = true by rw [h45, decide_eq_true (by omega)]; rfl)])
              | (rw [rkU, if_neg (show ¬ (decide (j ≠ k) && ltr V B k j) = true by rw [h45]; simp)])
              | (rw [rkU, if_neg (show ¬ (decide (j ≠ k) && ltr V B k j) = true by rw [decide_eq_false (by omega)]; simp)])
  · skip
    refine v_bipush iX8_order_4 (by decide) ?_
    exact r_i iX8_order_6 rfl (⟨cf_i (by rw [if_neg (by omega)]), rfl, rfl⟩)

set_option maxHeartbeats 4000000 in
set_option maxRecDepth 100000 in
theorem qX8_joints (σ α : St) {n : Nat} (hn : σ 95 1 = (n : Int)) (hn10 : n ≤ 10) (hN : ∀ i, i < n → 0 ≤ α 99 i ∧ α 99 i < 1024) : CF 1 mX8_joints [vR 95] σ α (some (vI (sumO (α 99) n / 2))) (σ) (α) := by
  refine CG.of [some (vR 95), none, none] (by decide) (by simp [lvA]) rfl ?_
  refine v_iconst iX8_joints_0 ?_
  refine v_is1 iX8_joints_1 ⟨rfl, rfl⟩ ?_
  refine v_iconst iX8_joints_2 ?_
  refine v_is2 iX8_joints_3 ⟨rfl, rfl⟩ ?_
  refine ind_up (P := fun k => VV 1 mX8_joints [vR 95] (fun r' s' a' => r' = some (vI (sumO (α 99) n / 2)) ∧ s' = σ ∧ a' = α) σ α 4 [some (vR 95), some (vI (sumO (α 99) k)), some (vI (k : Int))] []) n ?_ 0 (by omega)
  intro k hk ih
  refine v_iload_n iX8_joints_4 rfl ?_
  refine v_aload_n iX8_joints_5 rfl ?_
  refine v_getI iX8_joints_6 fX8_57 rfl rfl (by exact hn) ?_
  refine v_icmp_ge (tgt := 30) iX8_joints_9 (by decide) (by omega) (fun h9 => ?_) (fun h9 => ?_)
  · have hkn : n = k := by omega
    subst hkn
    have hs := sumO_r (α 99) n
    refine v_iload_n iX8_joints_30 rfl ?_
    refine v_iconst iX8_joints_31 ?_
    refine v_idiv iX8_joints_32 (by omega) (by omega) ?_
    exact r_i iX8_joints_33 rfl (⟨cf_i (by rfl), rfl, rfl⟩)
  · have hs := sumO_r (α 99) k
    have ho := onesU_r (α 99 k) 10
    refine v_iload_n iX8_joints_12 rfl ?_
    refine v_aload_n iX8_joints_13 rfl ?_
    refine v_getR iX8_joints_14 fX8_19 rfl rfl ?_
    refine v_iload_n iX8_joints_17 rfl ?_
    refine v_iaload iX8_joints_18 rfl (by omega) (by exact (show _ = α 99 k by rw [Int.toNat_natCast])) ?_
    refine c_S1 (Mc := mX8_ones) iX8_joints_19 lX8_225 kX8_ones (qX8_ones _ _ _ (by have := hN k (by omega); omega)) (by decide) rfl rfl (Nat.le_of_ble_eq_true rfl) ?_
    try simp only [Int.toNat_natCast]
    refine v_iadd iX8_joints_22 ?_
    refine v_is1 iX8_joints_23 ⟨rfl, rfl⟩ ?_
    refine v_in2 iX8_joints_24 ⟨rfl, rfl⟩ ?_
    refine v_goto (tgt := 4) iX8_joints_27 (by decide) ?_
    exact (ih (by omega)).as rfl rfl rfl rfl

set_option maxHeartbeats 4000000 in
set_option maxRecDepth 100000 in
theorem qX8_fed (σ α : St) {n : Nat} {V B N : Nat → Int} (hR : RV σ α n V B N) (hW : WF n V B N) {a b c : Int} (hU : RU σ a b c) {m : Nat} (hM : RR α n m) : CG 10 mX8_fed [vR 95] σ α (fun r' s' a' => r' = some (vI ((fdS a b c V B N n (α 96) m (2 ^ m - 1 : Nat) : Nat) : Int)) ∧ Sc σ s' ∧ a' = LH c V B N n α) := by
  have hm6 := hM.2.1
  have hp := pw6 hm6
  refine CG.of [some (vR 95)] (by decide) (by simp [lvA]) rfl ?_
  refine v_aload_n iX8_fed_0 rfl ?_
  refine c_VN (Mc := mX8_layHeads) iX8_fed_1 lX8_195 kX8_layHeads (qX8_layHeads σ α hR hW hU) (by decide) rfl rfl rfl rfl (Nat.le_of_ble_eq_true rfl) ?_
  rintro σ1 a1 ⟨hs1, ha1⟩
  replace ha1 : a1 = LH c V B N n α := ha1
  rw [ha1]
  try simp only [Int.toNat_natCast]
  refine v_aload_n iX8_fed_4 rfl ?_
  refine v_aload_n iX8_fed_5 rfl ?_
  refine c_V1 (Mc := mX8_allRisers) iX8_fed_6 lX8_198 kX8_allRisers (qX8_allRisers _ _ (hM.lh _)) (by decide) rfl rfl rfl rfl (Nat.le_of_ble_eq_true rfl) ?_
  try simp only [Int.toNat_natCast]
  rw [show ((2 ^ m : Nat) - 1 : Int) = ((2 ^ m - 1 : Nat) : Int) by omega]
  refine c_V1 (Mc := mX8_fedBy) iX8_fed_9 lX8_201 kX8_fedBy (LH_fed (hR.sc hs1) hW (hU.sc hs1) hM _ (by omega)) (by decide) rfl rfl rfl rfl (Nat.le_of_ble_eq_true rfl) ?_
  try simp only [Int.toNat_natCast]
  exact r_i iX8_fed_12 rfl (⟨rfl, hs1, rfl⟩)
