set_option maxHeartbeats 4000000 in
set_option maxRecDepth 100000 in
theorem qX8_pour_o (σ α : St) (i j : Int) (hi : InR i) (hj : InR j) (hbad : ¬ ((0 ≤ i ∧ i < 3) ∧ (0 ≤ j ∧ j < 3) ∧ i ≠ j)) : CF 2 mX8_pour [vR 95, vI i, vI j] σ α (some (vI (-2))) (σ) (α) := by
  refine CG.of [some (vR 95), some (vI i), some (vI j), none] (by decide) (by simp [lvA]) rfl ?_
  refine v_iload_n iX8_pour_0 rfl ?_
  refine c_S1 (Mc := mX8_isBin) iX8_pour_1 lX8_230 kX8_isBin (qX8_isBin _ _ i hi) (by decide) rfl rfl (Nat.le_of_ble_eq_true rfl) ?_
  try simp only [Int.toNat_natCast]
  refine v_bif_eq (tgt := 19) iX8_pour_4 (by decide) (fun h4 => ?_) (fun h4 => ?_)
  · try simp only [Int.toNat_natCast] at h4
    refine v_bipush iX8_pour_19 (by decide) ?_
    exact r_i iX8_pour_21 rfl (⟨cf_i (by rfl), rfl, rfl⟩)
  · try simp only [Int.toNat_natCast] at h4
    refine v_iload_n iX8_pour_7 rfl ?_
    refine c_S1 (Mc := mX8_isBin) iX8_pour_8 lX8_230 kX8_isBin (qX8_isBin _ _ j hj) (by decide) rfl rfl (Nat.le_of_ble_eq_true rfl) ?_
    try simp only [Int.toNat_natCast]
    refine v_bif_eq (tgt := 19) iX8_pour_11 (by decide) (fun h11 => ?_) (fun h11 => ?_)
    · try simp only [Int.toNat_natCast] at h11
      refine v_bipush iX8_pour_19 (by decide) ?_
      exact r_i iX8_pour_21 rfl (⟨cf_i (by rfl), rfl, rfl⟩)
    · try simp only [Int.toNat_natCast] at h11
      refine v_iload_n iX8_pour_14 rfl ?_
      refine v_iload_n iX8_pour_15 rfl ?_
      refine v_icmp_ne (tgt := 22) iX8_pour_16 (by decide) (by omega) (fun h16 => (by exfalso; simp at h4 h11; omega)) (fun h16 => ?_)
      refine v_bipush iX8_pour_19 (by decide) ?_
      exact r_i iX8_pour_21 rfl (⟨cf_i (by rfl), rfl, rfl⟩)

set_option maxHeartbeats 4000000 in
set_option maxRecDepth 100000 in
theorem qX7_pour_o (σ α : St) (i j : Int) (hi : InR i) (hj : InR j) (hbad : ¬ ((0 ≤ i ∧ i < 3) ∧ (0 ≤ j ∧ j < 3) ∧ i ≠ j)) : CF 2 mX7_pour [vR 0, vI i, vI j] σ α (some (vI (-2))) (σ) (α) := by
  refine CG.of [some (vR 0), some (vI i), some (vI j)] (by decide) (by simp [lvA]) rfl ?_
  refine v_iload_n iX7_pour_0 rfl ?_
  refine c_S1 (Mc := mX7_isBin) iX7_pour_1 lX7_226 kX7_isBin (qX7_isBin _ _ i hi) (by decide) rfl rfl (Nat.le_of_ble_eq_true rfl) ?_
  try simp only [Int.toNat_natCast]
  refine v_bif_eq (tgt := 19) iX7_pour_4 (by decide) (fun h4 => ?_) (fun h4 => ?_)
  · try simp only [Int.toNat_natCast] at h4
    refine v_bipush iX7_pour_19 (by decide) ?_
    exact r_i iX7_pour_21 rfl (⟨cf_i (by rfl), rfl, rfl⟩)
  · try simp only [Int.toNat_natCast] at h4
    refine v_iload_n iX7_pour_7 rfl ?_
    refine c_S1 (Mc := mX7_isBin) iX7_pour_8 lX7_226 kX7_isBin (qX7_isBin _ _ j hj) (by decide) rfl rfl (Nat.le_of_ble_eq_true rfl) ?_
    try simp only [Int.toNat_natCast]
    refine v_bif_eq (tgt := 19) iX7_pour_11 (by decide) (fun h11 => ?_) (fun h11 => ?_)
    · try simp only [Int.toNat_natCast] at h11
      refine v_bipush iX7_pour_19 (by decide) ?_
      exact r_i iX7_pour_21 rfl (⟨cf_i (by rfl), rfl, rfl⟩)
    · try simp only [Int.toNat_natCast] at h11
      refine v_iload_n iX7_pour_14 rfl ?_
      refine v_iload_n iX7_pour_15 rfl ?_
      refine v_icmp_ne (tgt := 22) iX7_pour_16 (by decide) (by omega) (fun h16 => (by exfalso; simp at h4 h11; omega)) (fun h16 => ?_)
      refine v_bipush iX7_pour_19 (by decide) ?_
      exact r_i iX7_pour_21 rfl (⟨cf_i (by rfl), rfl, rfl⟩)
