set_option maxHeartbeats 4000000 in
set_option maxRecDepth 100000 in
theorem qX7_put (σ α : St) {n : Nat} (hn : σ 3 4 = (n : Int)) (hn10 : n ≤ 10) {x z : Nat} (hx : σ 27 1 = x) (hx8 : x < 8) (hz : σ 27 2 = z) (hz8 : z ≤ 8) {m : Nat} (hm : σ 22 4 = m) (hm6 : m ≤ 6) (i : Nat) (hi : i < n) (v k : Int) (hv : InR v) (hk : InR k) : CF 4 mX7_put [vR 0, vI (i : Int), vI v, vI k] σ α (some (vI (if (1 ≤ v ∧ v ≤ 99) ∧ 1 ≤ k ∧ k ≤ 99 then (if m = 6 then -5 else (m : Int)) else -3))) (if ((1 ≤ v ∧ v ≤ 99) ∧ 1 ≤ k ∧ k ≤ 99) ∧ m ≠ 6 then uS (rmS σ x z) 22 4 ((m : Int) + 1) else σ) (if ((1 ≤ v ∧ v ≤ 99) ∧ 1 ≤ k ∧ k ≤ 99) ∧ m ≠ 6 then (uA (uA (uA (rmA α x) 24 (uF (α 24) m i)) 25 (uF (α 25) m v)) 26 (uF (α 26) m k)) else α) := by
  refine CG.of [some (vR 0), some (vI (i : Int)), some (vI v), some (vI k)] (by decide) (by simp [lvA]) rfl ?_
  refine v_aload_n iX7_put_0 rfl ?_
  refine v_iload_n iX7_put_1 rfl ?_
  refine c_V1 (Mc := mX7_isSection) iX7_put_2 lX7_101 kX7_isSection (qX7_isSection σ α hn hn10 i (by omega)) (by decide) rfl rfl rfl rfl (Nat.le_of_ble_eq_true rfl) ?_
  try simp only [Int.toNat_natCast]
  refine v_bif_ne (tgt := 11) iX7_put_5 (by decide) (fun h5 => ?_) (fun h5 => (by exfalso; simp at h5; omega))
  refine v_iload_n iX7_put_11 rfl ?_
  refine c_S1 (Mc := mX7_isSize) iX7_put_12 lX7_171 kX7_isSize (qX7_isSize _ _ v hv) (by decide) rfl rfl (Nat.le_of_ble_eq_true rfl) ?_
  try simp only [Int.toNat_natCast]
  refine v_bif_eq (tgt := 25) iX7_put_15 (by decide) (fun h15 => ?_) (fun h15 => ?_)
  · try simp only [Int.toNat_natCast] at h15
    (try simp only [decide_eq_false_iff_not] at h15)
    (try simp only [decide_eq_false_iff_not] at h22)
    refine v_bipush iX7_put_25 (by decide) ?_
    exact r_i iX7_put_27 rfl (⟨cf_i (by rw [if_neg (by omega)]), by rw [if_neg (by omega)], by rw [if_neg (by omega)]⟩)
  · try simp only [Int.toNat_natCast] at h15
    simp only [decide_eq_true_eq] at h15
    refine v_iload_n iX7_put_18 rfl ?_
    refine c_S1 (Mc := mX7_isSize) iX7_put_19 lX7_171 kX7_isSize (qX7_isSize _ _ k hk) (by decide) rfl rfl (Nat.le_of_ble_eq_true rfl) ?_
    try simp only [Int.toNat_natCast]
    refine v_bif_ne (tgt := 28) iX7_put_22 (by decide) (fun h22 => ?_) (fun h22 => ?_)
    · try simp only [Int.toNat_natCast] at h22
      simp only [decide_eq_true_eq] at h22
      refine v_aload_n iX7_put_28 rfl ?_
      refine v_getR iX7_put_29 fX7_38 rfl rfl ?_
      refine v_getI iX7_put_32 fX7_174 rfl rfl (by exact hm) ?_
      refine v_bipush iX7_put_35 (by decide) ?_
      refine v_icmp_lt (tgt := 43) iX7_put_37 (by decide) (by omega) (fun h37 => ?_) (fun h37 => ?_)
      · refine v_aload_n iX7_put_43 rfl ?_
        refine v_getR iX7_put_44 fX7_45 rfl rfl ?_
        refine v_aload_n iX7_put_47 rfl ?_
        refine v_getR iX7_put_48 fX7_38 rfl rfl ?_
        refine c_V0 (Mc := mX2_remember) iX7_put_51 lX7_177 kX2_remember (qX2_rem σ α x z hx hx8 hz hz8) (by decide) rfl rfl rfl rfl (Nat.le_of_ble_eq_true rfl) ?_
        try simp only [Int.toNat_natCast]
        refine v_aload_n iX7_put_54 rfl ?_
        refine v_getR iX7_put_55 fX7_38 rfl rfl ?_
        refine v_iload_n iX7_put_58 rfl ?_
        refine v_iload_n iX7_put_59 rfl ?_
        refine v_iload_n iX7_put_60 rfl ?_
        refine c_V0 (Mc := mX1_addRiser) iX7_put_61 lX7_180 kX1_addRiser (qX1_addRiser _ _ 22 isFit_now m (by rw [rmS_at _ _ _ (by omega)]; exact hm) (by omega) i v k) (by decide) rfl rfl rfl rfl (Nat.le_of_ble_eq_true rfl) ?_
        try simp only [Int.toNat_natCast]
        refine v_aload_n iX7_put_64 rfl ?_
        refine v_getR iX7_put_65 fX7_38 rfl rfl ?_
        refine v_getI iX7_put_68 fX7_174 rfl rfl (by exact (show _ = (m : Int) + 1 by rw [uS_eq])) ?_
        refine v_iconst iX7_put_71 ?_
        refine v_isub iX7_put_72 ?_
        exact r_i iX7_put_73 rfl (⟨cf_i (by rw [if_pos (by omega), if_neg (by omega)]; omega), by rw [if_pos (by omega)], by rw [if_pos (by omega), rmA_at _ _ (by omega), rmA_at _ _ (by omega), rmA_at _ _ (by omega)]⟩)
      · refine v_bipush iX7_put_40 (by decide) ?_
        exact r_i iX7_put_42 rfl (⟨cf_i (by rw [if_pos (by omega), if_pos (by omega)]), by rw [if_neg (by omega)], by rw [if_neg (by omega)]⟩)
    · try simp only [Int.toNat_natCast] at h22
      (try simp only [decide_eq_false_iff_not] at h15)
      (try simp only [decide_eq_false_iff_not] at h22)
      refine v_bipush iX7_put_25 (by decide) ?_
      exact r_i iX7_put_27 rfl (⟨cf_i (by rw [if_neg (by omega)]), by rw [if_neg (by omega)], by rw [if_neg (by omega)]⟩)

set_option maxHeartbeats 4000000 in
set_option maxRecDepth 100000 in
theorem qX7_take (σ α : St) {x z : Nat} (hx : σ 27 1 = x) (hx8 : x < 8) (hz : σ 27 2 = z) (hz8 : z ≤ 8) {m : Nat} (hm : σ 22 4 = m) (hm6 : m ≤ 6) (r : Nat) (hr : r < m) : CF 4 mX7_take [vR 0, vI (r : Int)] σ α (some (vI ((m : Int) - 1))) (uS (rmS σ x z) 22 4 ((m : Int) - 1)) (sh3 (rmA α x) 22 (shiftF (α 24) r m) (shiftF (α 25) r m) (shiftF (α 26) r m)) := by
  refine CG.of [some (vR 0), some (vI (r : Int))] (by decide) (by simp [lvA]) rfl ?_
  refine v_aload_n iX7_take_0 rfl ?_
  refine v_iload_n iX7_take_1 rfl ?_
  refine c_V1 (Mc := mX7_isRiser) iX7_take_2 lX7_160 kX7_isRiser (qX7_isRiser σ α hm hm6 r (by omega)) (by decide) rfl rfl rfl rfl (Nat.le_of_ble_eq_true rfl) ?_
  try simp only [Int.toNat_natCast]
  refine v_bif_ne (tgt := 11) iX7_take_5 (by decide) (fun h5 => ?_) (fun h5 => (by exfalso; simp at h5; omega))
  refine v_aload_n iX7_take_11 rfl ?_
  refine v_getR iX7_take_12 fX7_45 rfl rfl ?_
  refine v_aload_n iX7_take_15 rfl ?_
  refine v_getR iX7_take_16 fX7_38 rfl rfl ?_
  refine c_V0 (Mc := mX2_remember) iX7_take_19 lX7_177 kX2_remember (qX2_rem σ α x z hx hx8 hz hz8) (by decide) rfl rfl rfl rfl (Nat.le_of_ble_eq_true rfl) ?_
  try simp only [Int.toNat_natCast]
  refine v_aload_n iX7_take_22 rfl ?_
  refine v_getR iX7_take_23 fX7_38 rfl rfl ?_
  refine v_iload_n iX7_take_26 rfl ?_
  refine c_V0 (Mc := mX1_removeRiser) iX7_take_27 lX7_184 kX1_removeRiser (qX1_removeRiser _ _ 22 isFit_now m (by rw [rmS_at _ _ _ (by omega)]; exact hm) hm6 r hr) (by decide) rfl rfl rfl rfl (Nat.le_of_ble_eq_true rfl) ?_
  try simp only [Int.toNat_natCast]
  refine v_aload_n iX7_take_30 rfl ?_
  refine v_getR iX7_take_31 fX7_38 rfl rfl ?_
  refine v_getI iX7_take_34 fX7_174 rfl rfl (by exact (show _ = (m : Int) - 1 by rw [uS_eq])) ?_
  exact r_i iX7_take_37 rfl (⟨rfl, rfl, by rw [rmA_at _ _ (by omega), rmA_at _ _ (by omega), rmA_at _ _ (by omega)]⟩)

set_option maxHeartbeats 4000000 in
set_option maxRecDepth 100000 in
theorem qX7_move (σ α : St) {n : Nat} (hn : σ 3 4 = (n : Int)) (hn10 : n ≤ 10) {x z : Nat} (hx : σ 27 1 = x) (hx8 : x < 8) (hz : σ 27 2 = z) (hz8 : z ≤ 8) (a b : Nat) (ha : a < n) (hb : b < n) (hab : a ≠ b) (ca cb : Int) (hca : α 23 a = ca) (hcb : α 23 b = cb) (hca2 : 0 ≤ ca ∧ ca ≤ 9) (hcb2 : 0 ≤ cb ∧ cb ≤ 9) (v : Int) (hv : InR v) : CF 4 mX7_move [vR 0, vI (a : Int), vI (b : Int), vI v] σ α (some (vI (if 1 ≤ v ∧ v ≤ 9 then (if v ≤ ca ∧ cb + v ≤ 9 then cb + v else -4) else -3))) (if (1 ≤ v ∧ v ≤ 9) ∧ v ≤ ca ∧ cb + v ≤ 9 then rmS σ x z else σ) (if (1 ≤ v ∧ v ≤ 9) ∧ v ≤ ca ∧ cb + v ≤ 9 then uA (rmA α x) 23 (uF (uF (α 23) a (ca - v)) b (cb + v)) else α) := by
  refine CG.of [some (vR 0), some (vI (a : Int)), some (vI (b : Int)), some (vI v)] (by decide) (by simp [lvA]) rfl ?_
  refine v_aload_n iX7_move_0 rfl ?_
  refine v_iload_n iX7_move_1 rfl ?_
  refine c_V1 (Mc := mX7_isSection) iX7_move_2 lX7_101 kX7_isSection (qX7_isSection σ α hn hn10 a (by omega)) (by decide) rfl rfl rfl rfl (Nat.le_of_ble_eq_true rfl) ?_
  try simp only [Int.toNat_natCast]
  refine v_bif_eq (tgt := 21) iX7_move_5 (by decide) (fun h5 => (by exfalso; simp at h5; omega)) (fun h5 => ?_)
  refine v_aload_n iX7_move_8 rfl ?_
  refine v_iload_n iX7_move_9 rfl ?_
  refine c_V1 (Mc := mX7_isSection) iX7_move_10 lX7_101 kX7_isSection (qX7_isSection σ α hn hn10 b (by omega)) (by decide) rfl rfl rfl rfl (Nat.le_of_ble_eq_true rfl) ?_
  try simp only [Int.toNat_natCast]
  refine v_bif_eq (tgt := 21) iX7_move_13 (by decide) (fun h13 => (by exfalso; simp at h13; omega)) (fun h13 => ?_)
  refine v_iload_n iX7_move_16 rfl ?_
  refine v_iload_n iX7_move_17 rfl ?_
  refine v_icmp_ne (tgt := 24) iX7_move_18 (by decide) (by omega) (fun h18 => ?_) (fun h18 => (by exfalso; omega))
  refine v_iload_n iX7_move_24 rfl ?_
  refine c_S1 (Mc := mX7_isChillStep) iX7_move_25 lX7_188 kX7_isChillStep (qX7_isChillStep _ _ v hv) (by decide) rfl rfl (Nat.le_of_ble_eq_true rfl) ?_
  try simp only [Int.toNat_natCast]
  refine v_bif_ne (tgt := 34) iX7_move_28 (by decide) (fun h28 => ?_) (fun h28 => ?_)
  · try simp only [Int.toNat_natCast] at h28
    simp only [decide_eq_true_eq] at h28
    refine v_aload_n iX7_move_34 rfl ?_
    refine v_getR iX7_move_35 fX7_38 rfl rfl ?_
    refine v_getR iX7_move_38 fX7_114 rfl rfl ?_
    refine v_iload_n iX7_move_41 rfl ?_
    refine v_iaload iX7_move_42 rfl (by omega) (by exact (show _ = ca by rw [Int.toNat_natCast]; exact hca)) ?_
    refine v_iload_n iX7_move_43 rfl ?_
    refine v_icmp_lt (tgt := 63) iX7_move_44 (by decide) (by omega) (fun h44 => ?_) (fun h44 => ?_)
    · refine v_bipush iX7_move_63 (by decide) ?_
      exact r_i iX7_move_65 rfl (⟨cf_i (by rw [if_pos h28, if_neg (by omega)]), by rw [if_neg (by omega)], by rw [if_neg (by omega)]⟩)
    · refine v_aload_n iX7_move_47 rfl ?_
      refine v_getR iX7_move_48 fX7_38 rfl rfl ?_
      refine v_getR iX7_move_51 fX7_114 rfl rfl ?_
      refine v_iload_n iX7_move_54 rfl ?_
      refine v_iaload iX7_move_55 rfl (by omega) (by exact (show _ = cb by rw [Int.toNat_natCast]; exact hcb)) ?_
      refine v_iload_n iX7_move_56 rfl ?_
      refine v_iadd iX7_move_57 ?_
      refine v_bipush iX7_move_58 (by decide) ?_
      refine v_icmp_le (tgt := 66) iX7_move_60 (by decide) (by omega) (fun h60 => ?_) (fun h60 => ?_)
      · refine v_aload_n iX7_move_66 rfl ?_
        refine v_getR iX7_move_67 fX7_45 rfl rfl ?_
        refine v_aload_n iX7_move_70 rfl ?_
        refine v_getR iX7_move_71 fX7_38 rfl rfl ?_
        refine c_V0 (Mc := mX2_remember) iX7_move_74 lX7_177 kX2_remember (qX2_rem σ α x z hx hx8 hz hz8) (by decide) rfl rfl rfl rfl (Nat.le_of_ble_eq_true rfl) ?_
        try simp only [Int.toNat_natCast]
        refine v_aload_n iX7_move_77 rfl ?_
        refine v_getR iX7_move_78 fX7_38 rfl rfl ?_
        refine v_getR iX7_move_81 fX7_114 rfl rfl ?_
        refine v_iload_n iX7_move_84 rfl ?_
        refine v_dup2 iX7_move_85 ⟨(by intro z h; cases h), (by intro z h; cases h)⟩ ?_
        refine v_iaload iX7_move_86 rfl (by omega) (by exact (show _ = ca by rw [Int.toNat_natCast, rmA_at _ _ (by omega)]; exact hca)) ?_
        refine v_iload_n iX7_move_87 rfl ?_
        refine v_isub iX7_move_88 ?_
        refine v_iastore iX7_move_89 rfl (by omega) ?_
        refine v_aload_n iX7_move_90 rfl ?_
        refine v_getR iX7_move_91 fX7_38 rfl rfl ?_
        refine v_getR iX7_move_94 fX7_114 rfl rfl ?_
        refine v_iload_n iX7_move_97 rfl ?_
        refine v_dup2 iX7_move_98 ⟨(by intro z h; cases h), (by intro z h; cases h)⟩ ?_
        refine v_iaload iX7_move_99 rfl (by omega) (by exact (show _ = cb by rw [uA_eq, Int.toNat_natCast, Int.toNat_natCast, uF_ne _ _ (by omega), rmA_at _ _ (by omega)]; exact hcb)) ?_
        refine v_iload_n iX7_move_100 rfl ?_
        refine v_iadd iX7_move_101 ?_
        refine v_iastore iX7_move_102 rfl (by omega) ?_
        refine v_aload_n iX7_move_103 rfl ?_
        refine v_getR iX7_move_104 fX7_38 rfl rfl ?_
        refine v_getR iX7_move_107 fX7_114 rfl rfl ?_
        refine v_iload_n iX7_move_110 rfl ?_
        refine v_iaload iX7_move_111 rfl (by omega) (by exact (show _ = cb + v by rw [uA_eq, uF_eq])) ?_
        exact r_i iX7_move_112 rfl (⟨cf_i (by rw [if_pos h28, if_pos (by omega)]), by rw [if_pos (by omega)], by rw [if_pos (by omega)]; simp only [uA_eq, uA_uA, Int.toNat_natCast, rmA_at α x (show 23 < 29 by omega)]⟩)
      · refine v_bipush iX7_move_63 (by decide) ?_
        exact r_i iX7_move_65 rfl (⟨cf_i (by rw [if_pos h28, if_neg (by omega)]), by rw [if_neg (by omega)], by rw [if_neg (by omega)]⟩)
  · try simp only [Int.toNat_natCast] at h28
    simp only [decide_eq_false_iff_not] at h28
    refine v_bipush iX7_move_31 (by decide) ?_
    exact r_i iX7_move_33 rfl (⟨cf_i (by rw [if_neg h28]), by rw [if_neg (by omega)], by rw [if_neg (by omega)]⟩)

set_option maxHeartbeats 4000000 in
set_option maxRecDepth 100000 in
theorem qX7_chill (σ α : St) {x z : Nat} (hx : σ 27 1 = x) (hx8 : x < 8) (hz : σ 27 2 = z) (hz8 : z ≤ 8) {n : Nat} {V B N : Nat → Int} {c : Int} (hn : σ 3 4 = (n : Int)) (hW : WF n V B N) (i : Nat) (hi : i < n) (v : Int) (hv : 0 ≤ v ∧ v ≤ 9) (ci : Int) (hci : α 23 i = ci) (hci2 : 0 ≤ ci ∧ ci ≤ 9) (hne : ci ≠ v) (hP : PV (rmS σ x z) (uA (rmA α x) 23 (uF (α 23) i v)) n V B N c) : CG 6 mX7_chill [vR 0, vI (i : Int), vI v] σ α (fun r' s' a' => r' = some (vI (onesU (msk (topR V B N n) n : Nat) 10)) ∧ Cq (rmS σ x z) (uA (rmA α x) 23 (uF (α 23) i v)) s' a') := by
  have hn10 := hW.1
  have mt := pow10 hn10 (msk_lt (topR V B N n) n)
  refine CG.of [some (vR 0), some (vI (i : Int)), some (vI v)] (by decide) (by simp [lvA]) rfl ?_
  refine v_aload_n iX7_chill_0 rfl ?_
  refine v_iload_n iX7_chill_1 rfl ?_
  refine c_V1 (Mc := mX7_isSection) iX7_chill_2 lX7_101 kX7_isSection (qX7_isSection σ α hn hn10 i (by omega)) (by decide) rfl rfl rfl rfl (Nat.le_of_ble_eq_true rfl) ?_
  try simp only [Int.toNat_natCast]
  refine v_bif_ne (tgt := 11) iX7_chill_5 (by decide) (fun h5 => ?_) (fun h5 => (by exfalso; simp at h5; omega))
  refine v_iload_n iX7_chill_11 rfl ?_
  refine v_if_lt (tgt := 21) iX7_chill_12 (by decide) (by omega) (fun h12 => (by exfalso; omega)) (fun h12 => ?_)
  refine v_iload_n iX7_chill_15 rfl ?_
  refine v_bipush iX7_chill_16 (by decide) ?_
  refine v_icmp_le (tgt := 24) iX7_chill_18 (by decide) (by omega) (fun h18 => ?_) (fun h18 => (by exfalso; omega))
  refine v_aload_n iX7_chill_24 rfl ?_
  refine v_getR iX7_chill_25 fX7_38 rfl rfl ?_
  refine v_getR iX7_chill_28 fX7_114 rfl rfl ?_
  refine v_iload_n iX7_chill_31 rfl ?_
  refine v_iaload iX7_chill_32 rfl (by omega) (by exact (show _ = ci by rw [Int.toNat_natCast]; exact hci)) ?_
  refine v_iload_n iX7_chill_33 rfl ?_
  refine v_icmp_ne (tgt := 40) iX7_chill_34 (by decide) (by omega) (fun h34 => ?_) (fun h34 => (by exfalso; omega))
  refine v_aload_n iX7_chill_40 rfl ?_
  refine v_getR iX7_chill_41 fX7_45 rfl rfl ?_
  refine v_aload_n iX7_chill_44 rfl ?_
  refine v_getR iX7_chill_45 fX7_38 rfl rfl ?_
  refine c_V0 (Mc := mX2_remember) iX7_chill_48 lX7_177 kX2_remember (qX2_rem σ α x z hx hx8 hz hz8) (by decide) rfl rfl rfl rfl (Nat.le_of_ble_eq_true rfl) ?_
  try simp only [Int.toNat_natCast]
  refine v_aload_n iX7_chill_51 rfl ?_
  refine v_getR iX7_chill_52 fX7_38 rfl rfl ?_
  refine v_getR iX7_chill_55 fX7_114 rfl rfl ?_
  refine v_iload_n iX7_chill_58 rfl ?_
  refine v_iload_n iX7_chill_59 rfl ?_
  refine v_iastore iX7_chill_60 rfl (by omega) ?_
  rw [Int.toNat_natCast, rmA_at _ _ (by omega)]
  refine v_aload_n iX7_chill_61 rfl ?_
  refine v_getR iX7_chill_62 fX7_62 rfl rfl ?_
  refine c_VN (Mc := mX3_settle) iX7_chill_65 lX7_105 kX3_settle (qX3_settle _ _ hP hW) (by decide) rfl rfl rfl rfl (Nat.le_of_ble_eq_true rfl) ?_
  rintro σ1 α1 ⟨hs1, hA, hS⟩
  have hK := hS.1
  try simp only [Int.toNat_natCast]
  refine v_aload_n iX7_chill_68 rfl ?_
  refine v_getR iX7_chill_69 fX7_62 rfl rfl ?_
  refine c_V1 (Mc := mX3_tops) iX7_chill_72 lX7_191 kX3_tops (qX3_tops σ1 α1 hK hW) (by decide) rfl rfl rfl rfl (Nat.le_of_ble_eq_true rfl) ?_
  try simp only [Int.toNat_natCast]
  refine c_S1 (Mc := mJ6_bitCount_0f7a4) iX7_chill_75 lX7_194 kJ6_bitCount_0f7a4 (qJ6_bitCount_0f7a4 _ _ _ (by omega)) (by decide) rfl rfl (Nat.le_of_ble_eq_true rfl) ?_
  try simp only [Int.toNat_natCast]
  exact r_i iX7_chill_78 rfl (⟨rfl, ⟨_, hs1⟩, hA⟩)

set_option maxHeartbeats 4000000 in
set_option maxRecDepth 100000 in
theorem qX7_chill_3 (σ α : St) {n : Nat} (hn : σ 3 4 = (n : Int)) (hn10 : n ≤ 10) (i : Nat) (hi : i < n) (v : Int) (hv : InR v) (hv2 : v < 0 ∨ 9 < v) : CF 2 mX7_chill [vR 0, vI (i : Int), vI v] σ α (some (vI (-3))) (σ) (α) := by
  refine CG.of [some (vR 0), some (vI (i : Int)), some (vI v)] (by decide) (by simp [lvA]) rfl ?_
  refine v_aload_n iX7_chill_0 rfl ?_
  refine v_iload_n iX7_chill_1 rfl ?_
  refine c_V1 (Mc := mX7_isSection) iX7_chill_2 lX7_101 kX7_isSection (qX7_isSection σ α hn hn10 i (by omega)) (by decide) rfl rfl rfl rfl (Nat.le_of_ble_eq_true rfl) ?_
  try simp only [Int.toNat_natCast]
  refine v_bif_ne (tgt := 11) iX7_chill_5 (by decide) (fun h5 => ?_) (fun h5 => (by exfalso; simp at h5; omega))
  refine v_iload_n iX7_chill_11 rfl ?_
  refine v_if_lt (tgt := 21) iX7_chill_12 (by decide) (by omega) (fun h12 => ?_) (fun h12 => ?_)
  · refine v_bipush iX7_chill_21 (by decide) ?_
    exact r_i iX7_chill_23 rfl (⟨cf_i (by rfl), rfl, rfl⟩)
  · refine v_iload_n iX7_chill_15 rfl ?_
    refine v_bipush iX7_chill_16 (by decide) ?_
    refine v_icmp_le (tgt := 24) iX7_chill_18 (by decide) (by omega) (fun h18 => (by exfalso; omega)) (fun h18 => ?_)
    refine v_bipush iX7_chill_21 (by decide) ?_
    exact r_i iX7_chill_23 rfl (⟨cf_i (by rfl), rfl, rfl⟩)

set_option maxHeartbeats 4000000 in
set_option maxRecDepth 100000 in
theorem qX7_chill_4 (σ α : St) {n : Nat} (hn : σ 3 4 = (n : Int)) (hn10 : n ≤ 10) (i : Nat) (hi : i < n) (v : Int) (hv : 0 ≤ v ∧ v ≤ 9) (hne : α 23 i = v) : CF 2 mX7_chill [vR 0, vI (i : Int), vI v] σ α (some (vI (-4))) (σ) (α) := by
  refine CG.of [some (vR 0), some (vI (i : Int)), some (vI v)] (by decide) (by simp [lvA]) rfl ?_
  refine v_aload_n iX7_chill_0 rfl ?_
  refine v_iload_n iX7_chill_1 rfl ?_
  refine c_V1 (Mc := mX7_isSection) iX7_chill_2 lX7_101 kX7_isSection (qX7_isSection σ α hn hn10 i (by omega)) (by decide) rfl rfl rfl rfl (Nat.le_of_ble_eq_true rfl) ?_
  try simp only [Int.toNat_natCast]
  refine v_bif_ne (tgt := 11) iX7_chill_5 (by decide) (fun h5 => ?_) (fun h5 => (by exfalso; simp at h5; omega))
  refine v_iload_n iX7_chill_11 rfl ?_
  refine v_if_lt (tgt := 21) iX7_chill_12 (by decide) (by omega) (fun h12 => (by exfalso; omega)) (fun h12 => ?_)
  refine v_iload_n iX7_chill_15 rfl ?_
  refine v_bipush iX7_chill_16 (by decide) ?_
  refine v_icmp_le (tgt := 24) iX7_chill_18 (by decide) (by omega) (fun h18 => ?_) (fun h18 => (by exfalso; omega))
  refine v_aload_n iX7_chill_24 rfl ?_
  refine v_getR iX7_chill_25 fX7_38 rfl rfl ?_
  refine v_getR iX7_chill_28 fX7_114 rfl rfl ?_
  refine v_iload_n iX7_chill_31 rfl ?_
  refine v_iaload iX7_chill_32 rfl (by omega) (by exact (show _ = v by rw [Int.toNat_natCast]; exact hne)) ?_
  refine v_iload_n iX7_chill_33 rfl ?_
  refine v_icmp_ne (tgt := 40) iX7_chill_34 (by decide) (by omega) (fun h34 => (by exfalso; omega)) (fun h34 => ?_)
  refine v_bipush iX7_chill_37 (by decide) ?_
  exact r_i iX7_chill_39 rfl (⟨cf_i (by rfl), rfl, rfl⟩)

set_option maxHeartbeats 4000000 in
set_option maxRecDepth 100000 in
theorem qX7_undo (σ α : St) (x y z : Nat) (hx : σ 27 1 = x) (hx8 : x < 8) (hy : ((x : Int) + 8 - 1) % 8 = y) (hz : σ 27 2 = z) (hz8 : 1 ≤ z ∧ z ≤ 8) : CF 4 mX7_undo [vR 0] σ α (some (vI ((z : Int) - 1))) (fcS (uS (uS σ 27 1 y) 27 2 ((z : Int) - 1)) 22 (29 + 5 * y)) (fcA α 22 (29 + 5 * y)) := by
  refine CG.of [some (vR 0)] (by decide) (by simp [lvA]) rfl ?_
  refine v_aload_n iX7_undo_0 rfl ?_
  refine v_getR iX7_undo_1 fX7_45 rfl rfl ?_
  refine v_getI iX7_undo_4 fX7_199 rfl rfl (by exact hz) ?_
  refine v_if_ne (tgt := 13) iX7_undo_7 (by decide) (by omega) (fun h7 => ?_) (fun h7 => (by exfalso; omega))
  refine v_aload_n iX7_undo_13 rfl ?_
  refine v_getR iX7_undo_14 fX7_45 rfl rfl ?_
  refine v_aload_n iX7_undo_17 rfl ?_
  refine v_getR iX7_undo_18 fX7_38 rfl rfl ?_
  refine c_V0 (Mc := mX2_recall) iX7_undo_21 lX7_202 kX2_recall (qX2_recall σ α x y z hx hx8 hy hz hz8) (by decide) rfl rfl rfl rfl (Nat.le_of_ble_eq_true rfl) ?_
  try simp only [Int.toNat_natCast]
  refine v_aload_n iX7_undo_24 rfl ?_
  refine v_getR iX7_undo_25 fX7_45 rfl rfl ?_
  refine v_getI iX7_undo_28 fX7_199 rfl rfl (by exact (show _ = (z : Int) - 1 by unfold fcS; rw [uS_row _ _ (by omega), uS_eq])) ?_
  exact r_i iX7_undo_31 rfl (⟨cf_i (by rfl), rfl, rfl⟩)

set_option maxHeartbeats 4000000 in
set_option maxRecDepth 100000 in
theorem qX7_undo_o (σ α : St) (hz : σ 27 2 = 0) : CF 1 mX7_undo [vR 0] σ α (some (vI (-4))) (σ) (α) := by
  refine CG.of [some (vR 0)] (by decide) (by simp [lvA]) rfl ?_
  refine v_aload_n iX7_undo_0 rfl ?_
  refine v_getR iX7_undo_1 fX7_45 rfl rfl ?_
  refine v_getI iX7_undo_4 fX7_199 rfl rfl (by exact hz) ?_
  refine v_if_ne (tgt := 13) iX7_undo_7 (by decide) (by omega) (fun h7 => (by exfalso; omega)) (fun h7 => ?_)
  refine v_bipush iX7_undo_10 (by decide) ?_
  exact r_i iX7_undo_12 rfl (⟨cf_i (by rfl), rfl, rfl⟩)

set_option maxHeartbeats 4000000 in
set_option maxRecDepth 100000 in
theorem qX7_keep_o (σ α : St) (k : Int) (hk : InR k) (hk2 : k < 0 ∨ 2 ≤ k) : CF 1 mX7_keep [vR 0, vI k] σ α (some (vI (-2))) (σ) (α) := by
  refine CG.of [some (vR 0), some (vI k)] (by decide) (by simp [lvA]) rfl ?_
  refine v_iload_n iX7_keep_0 rfl ?_
  refine c_S1 (Mc := mX7_isKeepPlace) iX7_keep_1 lX7_205 kX7_isKeepPlace (qX7_isKeepPlace _ _ k hk) (by decide) rfl rfl (Nat.le_of_ble_eq_true rfl) ?_
  try simp only [Int.toNat_natCast]
  refine v_bif_ne (tgt := 10) iX7_keep_4 (by decide) (fun h4 => (by exfalso; simp at h4; omega)) (fun h4 => ?_)
  refine v_bipush iX7_keep_7 (by decide) ?_
  exact r_i iX7_keep_9 rfl (⟨cf_i (by rfl), rfl, rfl⟩)

set_option maxHeartbeats 4000000 in
set_option maxRecDepth 100000 in
theorem qX7_back_o (σ α : St) (k : Int) (hk : InR k) (hk2 : k < 0 ∨ 2 ≤ k) : CF 1 mX7_back [vR 0, vI k] σ α (some (vI (-2))) (σ) (α) := by
  refine CG.of [some (vR 0), some (vI k)] (by decide) (by simp [lvA]) rfl ?_
  refine v_iload_n iX7_back_0 rfl ?_
  refine c_S1 (Mc := mX7_isKeepPlace) iX7_back_1 lX7_205 kX7_isKeepPlace (qX7_isKeepPlace _ _ k hk) (by decide) rfl rfl (Nat.le_of_ble_eq_true rfl) ?_
  try simp only [Int.toNat_natCast]
  refine v_bif_ne (tgt := 10) iX7_back_4 (by decide) (fun h4 => (by exfalso; simp at h4; omega)) (fun h4 => ?_)
  refine v_bipush iX7_back_7 (by decide) ?_
  exact r_i iX7_back_9 rfl (⟨cf_i (by rfl), rfl, rfl⟩)

set_option maxHeartbeats 4000000 in
set_option maxRecDepth 100000 in
theorem qX7_keep (σ α : St) (k : Nat) (hk : k < 2) {m : Nat} (hm : σ 22 4 = m) (hm6 : m ≤ 6) : CF 3 mX7_keep [vR 0, vI (k : Int)] σ α (some (vI (m : Int))) (fcS σ (79 + 5 * k) 22) (uA (fcA α (79 + 5 * k) 22) 70 (uF (α 70) k 1)) := by
  refine CG.of [some (vR 0), some (vI (k : Int))] (by decide) (by simp [lvA]) rfl ?_
  refine v_iload_n iX7_keep_0 rfl ?_
  refine c_S1 (Mc := mX7_isKeepPlace) iX7_keep_1 lX7_205 kX7_isKeepPlace (qX7_isKeepPlace _ _ k (by omega)) (by decide) rfl rfl (Nat.le_of_ble_eq_true rfl) ?_
  try simp only [Int.toNat_natCast]
  refine v_bif_ne (tgt := 10) iX7_keep_4 (by decide) (fun h4 => ?_) (fun h4 => (by exfalso; simp at h4; omega))
  refine v_aload_n iX7_keep_10 rfl ?_
  refine v_getR iX7_keep_11 fX7_49 (by first | rfl | exact (isFit_kept k hk).1) rfl ?_
  refine v_iload_n iX7_keep_14 rfl ?_
  refine v_aaload iX7_keep_15 rfl (by decide) (by simp only [List.length_cons, List.length_nil]; omega) (kept_at k hk) ?_
  refine v_aload_n iX7_keep_16 rfl ?_
  refine v_getR iX7_keep_17 fX7_38 (by first | rfl | exact (isFit_kept k hk).1) rfl ?_
  refine c_V0 (Mc := mX1_copyFrom) iX7_keep_20 lX7_92 kX1_copyFrom (qX1_copyFrom σ α (79 + 5 * k) 22 (isFit_kept k hk) isFit_now (by omega)) (by decide) rfl (by first | rfl | exact (isFit_kept k hk).1) rfl rfl (Nat.le_of_ble_eq_true rfl) ?_
  try simp only [Int.toNat_natCast]
  refine v_aload_n iX7_keep_23 rfl ?_
  refine v_getR iX7_keep_24 fX7_53 (by first | rfl | exact (isFit_kept k hk).1) rfl ?_
  refine v_iload_n iX7_keep_27 rfl ?_
  refine v_iconst iX7_keep_28 ?_
  refine v_bastore iX7_keep_29 (by first | rfl | exact (isFit_kept k hk).1) (by omega) (by omega) ?_
  refine v_aload_n iX7_keep_30 rfl ?_
  refine v_getR iX7_keep_31 fX7_38 (by first | rfl | exact (isFit_kept k hk).1) rfl ?_
  refine v_getI iX7_keep_34 fX7_174 (by first | rfl | exact (isFit_kept k hk).1) rfl (by exact (show _ = (m : Int) by unfold fcS; rw [uS_row _ _ (by omega)]; exact hm)) ?_
  exact r_i iX7_keep_37 rfl (⟨rfl, rfl, by rw [Int.toNat_natCast]; unfold fcA; rw [uA_ne _ _ (show 70 ≠ 79 + 5 * k + 4 by omega), uA_ne _ _ (show 70 ≠ 79 + 5 * k + 3 by omega), uA_ne _ _ (show 70 ≠ 79 + 5 * k + 2 by omega), uA_ne _ _ (show 70 ≠ 79 + 5 * k + 1 by omega)]⟩)

set_option maxHeartbeats 4000000 in
set_option maxRecDepth 100000 in
theorem qX7_back (σ α : St) (k : Nat) (hk : k < 2) (hw : α 70 k = 1) : CF 3 mX7_back [vR 0, vI (k : Int)] σ α (some (vI (σ (79 + 5 * k) 4))) (uS (fcS σ 22 (79 + 5 * k)) 27 2 0) (fcA α 22 (79 + 5 * k)) := by
  refine CG.of [some (vR 0), some (vI (k : Int))] (by decide) (by simp [lvA]) rfl ?_
  refine v_iload_n iX7_back_0 rfl ?_
  refine c_S1 (Mc := mX7_isKeepPlace) iX7_back_1 lX7_205 kX7_isKeepPlace (qX7_isKeepPlace _ _ k (by omega)) (by decide) rfl rfl (Nat.le_of_ble_eq_true rfl) ?_
  try simp only [Int.toNat_natCast]
  refine v_bif_ne (tgt := 10) iX7_back_4 (by decide) (fun h4 => ?_) (fun h4 => (by exfalso; simp at h4; omega))
  refine v_aload_n iX7_back_10 rfl ?_
  refine v_getR iX7_back_11 fX7_53 (by first | rfl | exact (isFit_kept k hk).1) rfl ?_
  refine v_iload_n iX7_back_14 rfl ?_
  refine v_baload iX7_back_15 (by first | rfl | exact (isFit_kept k hk).1) (by omega) (by exact (show _ = (1 : Int) by rw [Int.toNat_natCast]; exact hw)) ?_
  refine v_if_ne (tgt := 22) iX7_back_16 (by decide) (by omega) (fun h16 => ?_) (fun h16 => (by exfalso; omega))
  refine v_aload_n iX7_back_22 rfl ?_
  refine v_getR iX7_back_23 fX7_38 (by first | rfl | exact (isFit_kept k hk).1) rfl ?_
  refine v_aload_n iX7_back_26 rfl ?_
  refine v_getR iX7_back_27 fX7_49 (by first | rfl | exact (isFit_kept k hk).1) rfl ?_
  refine v_iload_n iX7_back_30 rfl ?_
  refine v_aaload iX7_back_31 rfl (by decide) (by simp only [List.length_cons, List.length_nil]; omega) (kept_at k hk) ?_
  refine c_V0 (Mc := mX1_copyFrom) iX7_back_32 lX7_92 kX1_copyFrom (qX1_copyFrom σ α 22 (79 + 5 * k) isFit_now (isFit_kept k hk) (by omega)) (by decide) rfl (by first | rfl | exact (isFit_kept k hk).1) rfl rfl (Nat.le_of_ble_eq_true rfl) ?_
  try simp only [Int.toNat_natCast]
  refine v_aload_n iX7_back_35 rfl ?_
  refine v_getR iX7_back_36 fX7_45 (by first | rfl | exact (isFit_kept k hk).1) rfl ?_
  refine v_iconst iX7_back_39 ?_
  refine v_put iX7_back_40 pX7_199 (by first | rfl | exact (isFit_kept k hk).1) rfl (by intro h; cases h) ?_
  refine v_aload_n iX7_back_43 rfl ?_
  refine v_getR iX7_back_44 fX7_38 (by first | rfl | exact (isFit_kept k hk).1) rfl ?_
  refine v_getI iX7_back_47 fX7_174 (by first | rfl | exact (isFit_kept k hk).1) rfl (by exact (show _ = σ (79 + 5 * k) 4 by rw [uS_row _ _ (by omega)]; unfold fcS; rw [uS_eq])) ?_
  exact r_i iX7_back_50 rfl (⟨cf_i (by rfl), rfl, rfl⟩)

set_option maxHeartbeats 4000000 in
set_option maxRecDepth 100000 in
theorem qX7_back_n (σ α : St) (k : Nat) (hk : k < 2) (hw : α 70 k = 0) : CF 3 mX7_back [vR 0, vI (k : Int)] σ α (some (vI (-4))) (σ) (α) := by
  refine CG.of [some (vR 0), some (vI (k : Int))] (by decide) (by simp [lvA]) rfl ?_
  refine v_iload_n iX7_back_0 rfl ?_
  refine c_S1 (Mc := mX7_isKeepPlace) iX7_back_1 lX7_205 kX7_isKeepPlace (qX7_isKeepPlace _ _ k (by omega)) (by decide) rfl rfl (Nat.le_of_ble_eq_true rfl) ?_
  try simp only [Int.toNat_natCast]
  refine v_bif_ne (tgt := 10) iX7_back_4 (by decide) (fun h4 => ?_) (fun h4 => (by exfalso; simp at h4; omega))
  refine v_aload_n iX7_back_10 rfl ?_
  refine v_getR iX7_back_11 fX7_53 rfl rfl ?_
  refine v_iload_n iX7_back_14 rfl ?_
  refine v_baload iX7_back_15 rfl (by omega) (by exact (show _ = (0 : Int) by rw [Int.toNat_natCast]; exact hw)) ?_
  refine v_if_ne (tgt := 22) iX7_back_16 (by decide) (by omega) (fun h16 => (by exfalso; omega)) (fun h16 => ?_)
  refine v_bipush iX7_back_19 (by decide) ?_
  exact r_i iX7_back_21 rfl (⟨cf_i (by rfl), rfl, rfl⟩)
