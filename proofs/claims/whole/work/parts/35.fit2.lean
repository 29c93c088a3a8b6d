set_option maxHeartbeats 4000000 in
set_option maxRecDepth 100000 in
theorem qX1_removeRiser (σ α : St) (p : Nat) (hp : isFit p) (m : Nat) (hm : σ p 4 = m) (hm6 : m ≤ 6) (r : Nat) (hr : r < m) : CF 0 mX1_removeRiser [vR p, vI (r : Int)] σ α (none) (uS σ p 4 ((m : Int) - 1)) (sh3 α p (shiftF (α (p + 2)) r m) (shiftF (α (p + 3)) r m) (shiftF (α (p + 4)) r m)) := by
  obtain ⟨p0, p1, p2, p3, p4⟩ := hp
  refine CG.of [some (vR p), some (vI (r : Int)), none] (by decide) (by simp [lvA]) rfl ?_
  refine v_iload_n iX1_removeRiser_0 rfl ?_
  refine v_is2 iX1_removeRiser_1 ⟨rfl, rfl⟩ ?_
  have key := ind_up (P := fun k => r ≤ k → VV 0 mX1_removeRiser [vR p, vI (r : Int)] (fun r' s' a' => r' = none ∧ s' = uS σ p 4 ((m : Int) - 1) ∧ a' = sh3 α p (shiftF (α (p + 2)) r m) (shiftF (α (p + 3)) r m) (shiftF (α (p + 4)) r m)) σ (sh3 α p (shiftF (α (p + 2)) r (k + 1)) (shiftF (α (p + 3)) r (k + 1)) (shiftF (α (p + 4)) r (k + 1))) 2 [some (vR p), some (vI (r : Int)), some (vI (k : Int))] []) (m - 1) ?_ r (by omega)
  · exact (key (Nat.le_refl _)).as rfl (by rw [shiftF_0, shiftF_0, shiftF_0, sh3_id]) rfl rfl
  intro k hk ih hrk
  refine v_iload_n iX1_removeRiser_2 rfl ?_
  refine v_iconst iX1_removeRiser_3 ?_
  refine v_iadd iX1_removeRiser_4 ?_
  refine v_aload_n iX1_removeRiser_5 rfl ?_
  refine v_getI iX1_removeRiser_6 fX1_30 (by assumption) rfl (by exact hm) ?_
  refine v_icmp_ge (tgt := 60) iX1_removeRiser_9 (by decide) (by omega) (fun h9 => ?_) (fun h9 => ?_)
  · have hkn : m = k + 1 := by omega
    subst hkn
    refine v_aload_n iX1_removeRiser_60 rfl ?_
    refine v_dup iX1_removeRiser_61 (by intro z h; cases h) ?_
    refine v_getI iX1_removeRiser_62 fX1_30 (by assumption) rfl (by exact hm) ?_
    refine v_iconst iX1_removeRiser_65 ?_
    refine v_isub iX1_removeRiser_66 ?_
    refine v_put iX1_removeRiser_67 pX1_30 (by assumption) rfl (by intro h; cases h) ?_
    exact r_v iX1_removeRiser_70 rfl (⟨rfl, rfl, rfl⟩)
  · refine v_aload_n iX1_removeRiser_12 rfl ?_
    refine v_getR iX1_removeRiser_13 fX1_15 (by assumption) rfl ?_
    refine v_iload_n iX1_removeRiser_16 rfl ?_
    refine v_aload_n iX1_removeRiser_17 rfl ?_
    refine v_getR iX1_removeRiser_18 fX1_15 (by assumption) rfl ?_
    refine v_iload_n iX1_removeRiser_21 rfl ?_
    refine v_iconst iX1_removeRiser_22 ?_
    refine v_iadd iX1_removeRiser_23 ?_
    refine v_iaload iX1_removeRiser_24 (by assumption) (by omega) (by exact (show _ = α (p + 2) (k + 1) by (try rw [sh3_p2]); (try rw [sh3_p3]); rw [sh3_2, show ((k : Int) + 1).toNat = k + 1 by omega, shiftF, if_neg (by omega)])) ?_
    refine v_iastore iX1_removeRiser_25 (by assumption) (by omega) ?_
    refine v_aload_n iX1_removeRiser_26 rfl ?_
    refine v_getR iX1_removeRiser_27 fX1_18 (by assumption) rfl ?_
    refine v_iload_n iX1_removeRiser_30 rfl ?_
    refine v_aload_n iX1_removeRiser_31 rfl ?_
    refine v_getR iX1_removeRiser_32 fX1_18 (by assumption) rfl ?_
    refine v_iload_n iX1_removeRiser_35 rfl ?_
    refine v_iconst iX1_removeRiser_36 ?_
    refine v_iadd iX1_removeRiser_37 ?_
    refine v_iaload iX1_removeRiser_38 (by assumption) (by omega) (by exact (show _ = α (p + 3) (k + 1) by (try rw [sh3_p2]); (try rw [sh3_p3]); rw [sh3_3, show ((k : Int) + 1).toNat = k + 1 by omega, shiftF, if_neg (by omega)])) ?_
    refine v_iastore iX1_removeRiser_39 (by assumption) (by omega) ?_
    refine v_aload_n iX1_removeRiser_40 rfl ?_
    refine v_getR iX1_removeRiser_41 fX1_21 (by assumption) rfl ?_
    refine v_iload_n iX1_removeRiser_44 rfl ?_
    refine v_aload_n iX1_removeRiser_45 rfl ?_
    refine v_getR iX1_removeRiser_46 fX1_21 (by assumption) rfl ?_
    refine v_iload_n iX1_removeRiser_49 rfl ?_
    refine v_iconst iX1_removeRiser_50 ?_
    refine v_iadd iX1_removeRiser_51 ?_
    refine v_iaload iX1_removeRiser_52 (by assumption) (by omega) (by exact (show _ = α (p + 4) (k + 1) by (try rw [sh3_p2]); (try rw [sh3_p3]); rw [sh3_4, show ((k : Int) + 1).toNat = k + 1 by omega, shiftF, if_neg (by omega)])) ?_
    refine v_iastore iX1_removeRiser_53 (by assumption) (by omega) ?_
    refine v_in2 iX1_removeRiser_54 ⟨rfl, rfl⟩ ?_
    refine v_goto (tgt := 2) iX1_removeRiser_57 (by decide) ?_
    exact (ih (by omega) (by omega)).as rfl (by
      simp only [Int.toNat_natCast, sh3_2, sh3_3, sh3_4, sh3_p2, sh3_p3, sh3_p4, shiftF_s _ hrk]) rfl rfl

set_option maxHeartbeats 4000000 in
set_option maxRecDepth 100000 in
theorem qX4_addSection (σ α : St) (p : Nat) (hp : isPlan p) (n : Nat) (hn : σ p 4 = n) (hn10 : n < 10) (v k : Int) : CF 0 mX4_addSection [vR p, vI v, vI k] σ α (none) (uS σ p 4 (n + 1)) (uA (uA (uA α (p + 1) (uF (α (p + 1)) n v)) (p + 2) (uF (α (p + 2)) n k)) (p + 3) (uF (α (p + 3)) n 0)) := by
  have hp2 := hp
  obtain ⟨p0, p1, p2, p3, p4⟩ := hp
  refine CG.of [some (vR p), some (vI v), some (vI k)] (by decide) (by simp [lvA]) rfl ?_
  refine v_aload_n iX4_addSection_0 rfl ?_
  refine v_getI iX4_addSection_1 fX4_38 (by assumption) rfl (by exact hn) ?_
  refine v_bipush iX4_addSection_4 (by decide) ?_
  refine v_icmp_lt (tgt := 10) iX4_addSection_6 (by decide) (by omega) (fun h6 => ?_) (fun h6 => (by exfalso; omega))
  refine v_aload_n iX4_addSection_10 rfl ?_
  refine v_getR iX4_addSection_11 fX4_9 (by assumption) rfl ?_
  refine v_aload_n iX4_addSection_14 rfl ?_
  refine v_getI iX4_addSection_15 fX4_38 (by assumption) rfl (by exact hn) ?_
  refine v_iload_n iX4_addSection_18 rfl ?_
  refine v_iastore iX4_addSection_19 (by assumption) (by omega) ?_
  refine v_aload_n iX4_addSection_20 rfl ?_
  refine v_getR iX4_addSection_21 fX4_15 (by assumption) rfl ?_
  refine v_aload_n iX4_addSection_24 rfl ?_
  refine v_getI iX4_addSection_25 fX4_38 (by assumption) rfl (by exact hn) ?_
  refine v_iload_n iX4_addSection_28 rfl ?_
  refine v_iastore iX4_addSection_29 (by assumption) (by omega) ?_
  refine v_aload_n iX4_addSection_30 rfl ?_
  refine v_getR iX4_addSection_31 fX4_18 (by assumption) rfl ?_
  refine v_aload_n iX4_addSection_34 rfl ?_
  refine v_getI iX4_addSection_35 fX4_38 (by assumption) rfl (by exact hn) ?_
  refine v_iconst iX4_addSection_38 ?_
  refine v_iastore iX4_addSection_39 (by assumption) (by omega) ?_
  refine v_aload_n iX4_addSection_40 rfl ?_
  refine v_dup iX4_addSection_41 (by intro z h; cases h) ?_
  refine v_getI iX4_addSection_42 fX4_38 (by assumption) rfl (by exact hn) ?_
  refine v_iconst iX4_addSection_45 ?_
  refine v_iadd iX4_addSection_46 ?_
  refine v_put iX4_addSection_47 pX4_38 (by assumption) rfl (by intro h; cases h) ?_
  exact r_v iX4_addSection_50 rfl (⟨rfl, rfl, by rw [uA_ne α _ (show p + 2 ≠ p + 1 by omega), uA_ne (uA _ _ _) _ (show p + 3 ≠ p + 2 by omega), uA_ne α _ (show p + 3 ≠ p + 1 by omega), Int.toNat_natCast]⟩)

set_option maxHeartbeats 4000000 in
set_option maxRecDepth 100000 in
theorem qX4_join (σ α : St) (p : Nat) (hp : isPlan p) (i j : Nat) (hi : i < 10) (hj : j < 10) (hij : i ≠ j) (h1 : 0 ≤ α (p + 3) i) (h2 : 0 ≤ α (p + 3) j) : CF 0 mX4_join [vR p, vI (i : Int), vI (j : Int)] σ α (none) (σ) (uA α (p + 3) (uF (uF (α (p + 3)) i (((α (p + 3) i).toNat ||| 2 ^ j : Nat) : Int)) j (((α (p + 3) j).toNat ||| 2 ^ i : Nat) : Int))) := by
  have hp2 := hp
  obtain ⟨p0, p1, p2, p3, p4⟩ := hp
  refine CG.of [some (vR p), some (vI (i : Int)), some (vI (j : Int))] (by decide) (by simp [lvA]) rfl ?_
  refine v_aload_n iX4_join_0 rfl ?_
  refine v_getR iX4_join_1 fX4_18 (by assumption) rfl ?_
  refine v_iload_n iX4_join_4 rfl ?_
  refine v_dup2 iX4_join_5 ⟨(by intro z h; cases h), (by intro z h; cases h)⟩ ?_
  refine v_iaload iX4_join_6 (by assumption) (by omega) (by exact congrArg (α (p + 3)) (Int.toNat_natCast i)) ?_
  refine v_iconst iX4_join_7 ?_
  refine v_iload_n iX4_join_8 rfl ?_
  refine v_ishl1 iX4_join_9 (by omega) ?_
  refine v_ior iX4_join_10 (by refine ⟨?_, ?_⟩ <;> first | exact Int.natCast_nonneg _ | omega) ?_
  refine v_iastore iX4_join_11 (by assumption) (by omega) ?_
  refine v_aload_n iX4_join_12 rfl ?_
  refine v_getR iX4_join_13 fX4_18 (by assumption) rfl ?_
  refine v_iload_n iX4_join_16 rfl ?_
  refine v_dup2 iX4_join_17 ⟨(by intro z h; cases h), (by intro z h; cases h)⟩ ?_
  refine v_iaload iX4_join_18 (by assumption) (by omega) (by exact (show _ = α (p + 3) j by simp only [uA_eq, Int.toNat_natCast]; rw [uF_ne _ _ (by omega)])) ?_
  refine v_iconst iX4_join_19 ?_
  refine v_iload_n iX4_join_20 rfl ?_
  refine v_ishl1 iX4_join_21 (by omega) ?_
  refine v_ior iX4_join_22 (by refine ⟨?_, ?_⟩ <;> first | exact Int.natCast_nonneg _ | omega) ?_
  refine v_iastore iX4_join_23 (by assumption) (by omega) ?_
  exact r_v iX4_join_24 rfl (⟨rfl, rfl, by simp only [uA_eq, uA_uA, Int.toNat_natCast]⟩)

set_option maxHeartbeats 4000000 in
set_option maxRecDepth 100000 in
theorem qX4_joints (σ α : St) (p : Nat) (hp : isPlan p) (n : Nat) (hn : σ p 4 = n) (hn10 : n ≤ 10) (hN : ∀ i, i < n → 0 ≤ α (p + 3) i ∧ α (p + 3) i < 1024) : CF 1 mX4_joints [vR p] σ α (some (vI (sumO (α (p + 3)) n / 2))) (σ) (α) := by
  have hp2 := hp
  obtain ⟨p0, p1, p2, p3, p4⟩ := hp
  refine CG.of [some (vR p), none, none] (by decide) (by simp [lvA]) rfl ?_
  refine v_iconst iX4_joints_0 ?_
  refine v_is1 iX4_joints_1 ⟨rfl, rfl⟩ ?_
  refine v_iconst iX4_joints_2 ?_
  refine v_is2 iX4_joints_3 ⟨rfl, rfl⟩ ?_
  refine ind_up (P := fun k => VV 1 mX4_joints [vR p] (fun r' s' a' => r' = some (vI (sumO (α (p + 3)) n / 2)) ∧ s' = σ ∧ a' = α) σ α 4 [some (vR p), some (vI (sumO (α (p + 3)) k)), some (vI (k : Int))] []) n ?_ 0 (by omega)
  intro k hk ih
  refine v_iload_n iX4_joints_4 rfl ?_
  refine v_aload_n iX4_joints_5 rfl ?_
  refine v_getI iX4_joints_6 fX4_38 (by assumption) rfl (by exact hn) ?_
  refine v_icmp_ge (tgt := 30) iX4_joints_9 (by decide) (by omega) (fun h9 => ?_) (fun h9 => ?_)
  · have hkn : n = k := by omega
    subst hkn
    have hs := sumO_r (α (p + 3)) n
    refine v_iload_n iX4_joints_30 rfl ?_
    refine v_iconst iX4_joints_31 ?_
    refine v_idiv iX4_joints_32 (by omega) (by omega) ?_
    exact r_i iX4_joints_33 rfl (⟨cf_i (by rfl), rfl, rfl⟩)
  · have hs := sumO_r (α (p + 3)) k
    refine v_iload_n iX4_joints_12 rfl ?_
    refine v_aload_n iX4_joints_13 rfl ?_
    refine v_getR iX4_joints_14 fX4_18 (by assumption) rfl ?_
    refine v_iload_n iX4_joints_17 rfl ?_
    refine v_iaload iX4_joints_18 (by assumption) (by omega) (by exact (show _ = ((α (p + 3) k).toNat : Int) by rw [Int.toNat_natCast]; have := hN k (by omega); omega)) ?_
    refine c_S1 (Mc := mJ6_bitCount_0f7a4) iX4_joints_19 lX4_58 kJ6_bitCount_0f7a4 (qJ6_bitCount_0f7a4 σ α _ (by have := hN k (by omega); omega)) (by decide) rfl rfl (Nat.le_of_ble_eq_true rfl) ?_
    try simp only [Int.toNat_natCast]
    refine v_iadd iX4_joints_22 ?_
    refine v_is1 iX4_joints_23 ⟨rfl, rfl⟩ ?_
    refine v_in2 iX4_joints_24 ⟨rfl, rfl⟩ ?_
    refine v_goto (tgt := 4) iX4_joints_27 (by decide) ?_
    exact (ih (by omega)).as rfl rfl (by
      have := hN k (by omega)
      rw [sumO, show (((α (p + 3) k).toNat : Nat) : Int) = α (p + 3) k by omega]; rfl) rfl

set_option maxHeartbeats 4000000 in
set_option maxRecDepth 100000 in
theorem qX2_remember (σ α : St) (x z : Nat) (hx : σ 27 1 = x) (hx8 : x < 8) (hz : σ 27 2 = z) (hz8 : z ≤ 8) : CF 3 mX2_remember [vR 27, vR 22] σ α (none) (uS (uS (fcS σ (29 + 5 * x) 22) 27 1 (((x : Int) + 1) % 8)) 27 2 (if 8 < (z : Int) + 1 then 8 else (z : Int) + 1)) (fcA α (29 + 5 * x) 22) := by
  refine CG.of [some (vR 27), some (vR 22)] (by decide) (by simp [lvA]) rfl ?_
  refine v_aload_n iX2_remember_0 rfl ?_
  refine v_getR iX2_remember_1 fX2_11 (by first | rfl | exact (isFit_past x hx8).1) rfl ?_
  refine v_aload_n iX2_remember_4 rfl ?_
  refine v_getI iX2_remember_5 fX2_18 (by first | rfl | exact (isFit_past x hx8).1) rfl (by exact hx) ?_
  refine v_aaload iX2_remember_8 rfl (by decide) (by simp only [List.length_cons, List.length_nil]; omega) (past_at x hx8) ?_
  refine v_aload_n iX2_remember_9 rfl ?_
  refine c_V0 (Mc := mX1_copyFrom) iX2_remember_10 lX2_22 kX1_copyFrom (qX1_copyFrom σ α (29 + 5 * x) 22 (isFit_past x hx8) isFit_now (by omega)) (by decide) rfl (by first | rfl | exact (isFit_past x hx8).1) rfl rfl (Nat.le_of_ble_eq_true rfl) ?_
  try simp only [Int.toNat_natCast]
  refine v_aload_n iX2_remember_13 rfl ?_
  refine v_aload_n iX2_remember_14 rfl ?_
  refine v_getI iX2_remember_15 fX2_18 (by first | rfl | exact (isFit_past x hx8).1) rfl (by show _ = (x : Int); unfold fcS; rw [uS_ne _ _ (by omega)]; exact hx) ?_
  refine v_iconst iX2_remember_18 ?_
  refine v_iadd iX2_remember_19 ?_
  refine v_bipush iX2_remember_20 (by decide) ?_
  refine v_irem iX2_remember_22 (by omega) (by omega) ?_
  refine v_put iX2_remember_23 pX2_18 (by first | rfl | exact (isFit_past x hx8).1) rfl (by intro h; cases h) ?_
  refine v_aload_n iX2_remember_26 rfl ?_
  refine v_aload_n iX2_remember_27 rfl ?_
  refine v_getI iX2_remember_28 fX2_26 (by first | rfl | exact (isFit_past x hx8).1) rfl (by show _ = (z : Int); unfold fcS; rw [uS_ne _ _ (by omega), uS_ne _ _ (by omega)]; exact hz) ?_
  refine v_iconst iX2_remember_31 ?_
  refine v_iadd iX2_remember_32 ?_
  refine v_bipush iX2_remember_33 (by decide) ?_
  refine v_min iX2_remember_35 (gw_t 561 (by decide +kernel) rfl) (by decide) (Nat.le_of_ble_eq_true rfl) (by omega) ?_
  refine v_put iX2_remember_38 pX2_26 (by first | rfl | exact (isFit_past x hx8).1) rfl (by intro h; cases h) ?_
  exact r_v iX2_remember_41 rfl (⟨rfl, rfl, rfl⟩)

set_option maxHeartbeats 4000000 in
set_option maxRecDepth 100000 in
theorem qX2_recall (σ α : St) (x y z : Nat) (hx : σ 27 1 = x) (hx8 : x < 8) (hy : ((x : Int) + 8 - 1) % 8 = y) (hz : σ 27 2 = z) (hz8 : 1 ≤ z ∧ z ≤ 8) : CF 3 mX2_recall [vR 27, vR 22] σ α (none) (fcS (uS (uS σ 27 1 y) 27 2 ((z : Int) - 1)) 22 (29 + 5 * y)) (fcA α 22 (29 + 5 * y)) := by
  refine CG.of [some (vR 27), some (vR 22)] (by decide) (by simp [lvA]) rfl ?_
  refine v_aload_n iX2_recall_0 rfl ?_
  refine v_aload_n iX2_recall_1 rfl ?_
  refine v_getI iX2_recall_2 fX2_18 (by first | rfl | exact (isFit_past y (by omega)).1) rfl (by exact hx) ?_
  refine v_bipush iX2_recall_5 (by decide) ?_
  refine v_iadd iX2_recall_7 ?_
  refine v_iconst iX2_recall_8 ?_
  refine v_isub iX2_recall_9 ?_
  refine v_bipush iX2_recall_10 (by decide) ?_
  refine v_irem iX2_recall_12 (by omega) (by omega) ?_
  rw [hy]
  refine v_put iX2_recall_13 pX2_18 (by first | rfl | exact (isFit_past y (by omega)).1) rfl (by intro h; cases h) ?_
  refine v_aload_n iX2_recall_16 rfl ?_
  refine v_dup iX2_recall_17 (by intro z h; cases h) ?_
  refine v_getI iX2_recall_18 fX2_26 (by first | rfl | exact (isFit_past y (by omega)).1) rfl (by show _ = (z : Int); rw [uS_ne _ _ (by omega)]; exact hz) ?_
  refine v_iconst iX2_recall_21 ?_
  refine v_isub iX2_recall_22 ?_
  refine v_put iX2_recall_23 pX2_26 (by first | rfl | exact (isFit_past y (by omega)).1) rfl (by intro h; cases h) ?_
  refine v_aload_n iX2_recall_26 rfl ?_
  refine v_aload_n iX2_recall_27 rfl ?_
  refine v_getR iX2_recall_28 fX2_11 (by first | rfl | exact (isFit_past y (by omega)).1) rfl ?_
  refine v_aload_n iX2_recall_31 rfl ?_
  refine v_getI iX2_recall_32 fX2_18 (by first | rfl | exact (isFit_past y (by omega)).1) rfl (by show _ = (y : Int); rw [uS_ne _ _ (by omega), uS_eq]) ?_
  refine v_aaload iX2_recall_35 rfl (by decide) (by simp only [List.length_cons, List.length_nil]; omega) (past_at y (by omega)) ?_
  refine c_V0 (Mc := mX1_copyFrom) iX2_recall_36 lX2_22 kX1_copyFrom (qX1_copyFrom _ _ 22 (29 + 5 * y) isFit_now (isFit_past y (by omega)) (by omega)) (by decide) rfl (by first | rfl | exact (isFit_past y (by omega)).1) rfl rfl (Nat.le_of_ble_eq_true rfl) ?_
  try simp only [Int.toNat_natCast]
  exact r_v iX2_recall_39 rfl (⟨rfl, rfl, rfl⟩)
