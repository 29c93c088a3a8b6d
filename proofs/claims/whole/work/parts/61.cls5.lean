set_option maxHeartbeats 4000000 in
set_option maxRecDepth 100000 in
theorem qX7_pass_o (σ α : St) {n : Nat} (hn : σ 3 4 = (n : Int)) (hn10 : n ≤ 10) (i j : Int) (hi : InR i) (hj : InR j) (hbad : ¬ ((0 ≤ i ∧ i < (n : Int)) ∧ (0 ≤ j ∧ j < (n : Int)) ∧ i ≠ j)) : CF 2 mX7_pass [vR 0, vI i, vI j] σ α (some (vI (-2))) (σ) (α) := by
  refine CG.of [some (vR 0), some (vI i), some (vI j)] (by decide) (by simp [lvA]) rfl ?_
  refine v_aload_n iX7_pass_0 rfl ?_
  refine v_iload_n iX7_pass_1 rfl ?_
  refine c_V1 (Mc := mX7_isSection) iX7_pass_2 lX7_101 kX7_isSection (qX7_isSection σ α hn hn10 i hi) (by decide) rfl rfl rfl rfl (Nat.le_of_ble_eq_true rfl) ?_
  try simp only [Int.toNat_natCast]
  refine v_bif_eq (tgt := 21) iX7_pass_5 (by decide) (fun h5 => ?_) (fun h5 => ?_)
  · try simp only [Int.toNat_natCast] at h5
    refine v_bipush iX7_pass_21 (by decide) ?_
    exact r_i iX7_pass_23 rfl (⟨cf_i (by rfl), rfl, rfl⟩)
  · try simp only [Int.toNat_natCast] at h5
    refine v_aload_n iX7_pass_8 rfl ?_
    refine v_iload_n iX7_pass_9 rfl ?_
    refine c_V1 (Mc := mX7_isSection) iX7_pass_10 lX7_101 kX7_isSection (qX7_isSection σ α hn hn10 j hj) (by decide) rfl rfl rfl rfl (Nat.le_of_ble_eq_true rfl) ?_
    try simp only [Int.toNat_natCast]
    refine v_bif_eq (tgt := 21) iX7_pass_13 (by decide) (fun h13 => ?_) (fun h13 => ?_)
    · try simp only [Int.toNat_natCast] at h13
      refine v_bipush iX7_pass_21 (by decide) ?_
      exact r_i iX7_pass_23 rfl (⟨cf_i (by rfl), rfl, rfl⟩)
    · try simp only [Int.toNat_natCast] at h13
      refine v_iload_n iX7_pass_16 rfl ?_
      refine v_iload_n iX7_pass_17 rfl ?_
      refine v_icmp_ne (tgt := 24) iX7_pass_18 (by decide) (by omega) (fun h18 => (by exfalso; simp at h5 h13; omega)) (fun h18 => ?_)
      refine v_bipush iX7_pass_21 (by decide) ?_
      exact r_i iX7_pass_23 rfl (⟨cf_i (by rfl), rfl, rfl⟩)

set_option maxHeartbeats 4000000 in
set_option maxRecDepth 100000 in
theorem qX7_move_o (σ α : St) {n : Nat} (hn : σ 3 4 = (n : Int)) (hn10 : n ≤ 10) (i j : Int) (hi : InR i) (hj : InR j) (hbad : ¬ ((0 ≤ i ∧ i < (n : Int)) ∧ (0 ≤ j ∧ j < (n : Int)) ∧ i ≠ j)) (v : Int) : CF 2 mX7_move [vR 0, vI i, vI j, vI v] σ α (some (vI (-2))) (σ) (α) := by
  refine CG.of [some (vR 0), some (vI i), some (vI j), some (vI v)] (by decide) (by simp [lvA]) rfl ?_
  refine v_aload_n iX7_move_0 rfl ?_
  refine v_iload_n iX7_move_1 rfl ?_
  refine c_V1 (Mc := mX7_isSection) iX7_move_2 lX7_101 kX7_isSection (qX7_isSection σ α hn hn10 i hi) (by decide) rfl rfl rfl rfl (Nat.le_of_ble_eq_true rfl) ?_
  try simp only [Int.toNat_natCast]
  refine v_bif_eq (tgt := 21) iX7_move_5 (by decide) (fun h5 => ?_) (fun h5 => ?_)
  · try simp only [Int.toNat_natCast] at h5
    refine v_bipush iX7_move_21 (by decide) ?_
    exact r_i iX7_move_23 rfl (⟨cf_i (by rfl), rfl, rfl⟩)
  · try simp only [Int.toNat_natCast] at h5
    refine v_aload_n iX7_move_8 rfl ?_
    refine v_iload_n iX7_move_9 rfl ?_
    refine c_V1 (Mc := mX7_isSection) iX7_move_10 lX7_101 kX7_isSection (qX7_isSection σ α hn hn10 j hj) (by decide) rfl rfl rfl rfl (Nat.le_of_ble_eq_true rfl) ?_
    try simp only [Int.toNat_natCast]
    refine v_bif_eq (tgt := 21) iX7_move_13 (by decide) (fun h13 => ?_) (fun h13 => ?_)
    · try simp only [Int.toNat_natCast] at h13
      refine v_bipush iX7_move_21 (by decide) ?_
      exact r_i iX7_move_23 rfl (⟨cf_i (by rfl), rfl, rfl⟩)
    · try simp only [Int.toNat_natCast] at h13
      refine v_iload_n iX7_move_16 rfl ?_
      refine v_iload_n iX7_move_17 rfl ?_
      refine v_icmp_ne (tgt := 24) iX7_move_18 (by decide) (by omega) (fun h18 => (by exfalso; simp at h5 h13; omega)) (fun h18 => ?_)
      refine v_bipush iX7_move_21 (by decide) ?_
      exact r_i iX7_move_23 rfl (⟨cf_i (by rfl), rfl, rfl⟩)

set_option maxHeartbeats 4000000 in
set_option maxRecDepth 100000 in
theorem qX7_section_o (σ α : St) {n : Nat} (hn : σ 3 4 = (n : Int)) (hn10 : n ≤ 10) (i : Int) (hi : InR i) (hi2 : i < 0 ∨ (n : Int) ≤ i) (f : Int) : CF 2 mX7_section [vR 0, vI i, vI f] σ α (some (vI (-2))) (σ) (α) := by
  refine CG.of [some (vR 0), some (vI i), some (vI f)] (by decide) (by simp [lvA]) rfl ?_
  refine v_aload_n iX7_section_0 rfl ?_
  refine v_iload_n iX7_section_1 rfl ?_
  refine c_V1 (Mc := mX7_isSection) iX7_section_2 lX7_101 kX7_isSection (qX7_isSection σ α hn hn10 i hi) (by decide) rfl rfl rfl rfl (Nat.le_of_ble_eq_true rfl) ?_
  try simp only [Int.toNat_natCast]
  refine v_bif_ne (tgt := 11) iX7_section_5 (by decide) (fun h5 => (by exfalso; simp at h5; omega)) (fun h5 => ?_)
  refine v_bipush iX7_section_8 (by decide) ?_
  exact r_i iX7_section_10 rfl (⟨cf_i (by rfl), rfl, rfl⟩)

set_option maxHeartbeats 4000000 in
set_option maxRecDepth 100000 in
theorem qX7_top_o (σ α : St) {n : Nat} (hn : σ 3 4 = (n : Int)) (hn10 : n ≤ 10) (i : Int) (hi : InR i) (hi2 : i < 0 ∨ (n : Int) ≤ i) (f : Int) : CF 2 mX7_top [vR 0, vI i, vI f] σ α (some (vI (-2))) (σ) (α) := by
  refine CG.of [some (vR 0), some (vI i), some (vI f)] (by decide) (by simp [lvA]) rfl ?_
  refine v_aload_n iX7_top_0 rfl ?_
  refine v_iload_n iX7_top_1 rfl ?_
  refine c_V1 (Mc := mX7_isSection) iX7_top_2 lX7_101 kX7_isSection (qX7_isSection σ α hn hn10 i hi) (by decide) rfl rfl rfl rfl (Nat.le_of_ble_eq_true rfl) ?_
  try simp only [Int.toNat_natCast]
  refine v_bif_ne (tgt := 11) iX7_top_5 (by decide) (fun h5 => (by exfalso; simp at h5; omega)) (fun h5 => ?_)
  refine v_bipush iX7_top_8 (by decide) ?_
  exact r_i iX7_top_10 rfl (⟨cf_i (by rfl), rfl, rfl⟩)

set_option maxHeartbeats 4000000 in
set_option maxRecDepth 100000 in
theorem qX7_need_o (σ α : St) {n : Nat} (hn : σ 3 4 = (n : Int)) (hn10 : n ≤ 10) (i : Int) (hi : InR i) (hi2 : i < 0 ∨ (n : Int) ≤ i) (f : Int) : CF 2 mX7_need [vR 0, vI i, vI f] σ α (some (vI (-2))) (σ) (α) := by
  refine CG.of [some (vR 0), some (vI i), some (vI f)] (by decide) (by simp [lvA]) rfl ?_
  refine v_aload_n iX7_need_0 rfl ?_
  refine v_iload_n iX7_need_1 rfl ?_
  refine c_V1 (Mc := mX7_isSection) iX7_need_2 lX7_101 kX7_isSection (qX7_isSection σ α hn hn10 i hi) (by decide) rfl rfl rfl rfl (Nat.le_of_ble_eq_true rfl) ?_
  try simp only [Int.toNat_natCast]
  refine v_bif_ne (tgt := 11) iX7_need_5 (by decide) (fun h5 => (by exfalso; simp at h5; omega)) (fun h5 => ?_)
  refine v_bipush iX7_need_8 (by decide) ?_
  exact r_i iX7_need_10 rfl (⟨cf_i (by rfl), rfl, rfl⟩)

set_option maxHeartbeats 4000000 in
set_option maxRecDepth 100000 in
theorem qX7_chill_o (σ α : St) {n : Nat} (hn : σ 3 4 = (n : Int)) (hn10 : n ≤ 10) (i : Int) (hi : InR i) (hi2 : i < 0 ∨ (n : Int) ≤ i) (f : Int) : CF 2 mX7_chill [vR 0, vI i, vI f] σ α (some (vI (-2))) (σ) (α) := by
  refine CG.of [some (vR 0), some (vI i), some (vI f)] (by decide) (by simp [lvA]) rfl ?_
  refine v_aload_n iX7_chill_0 rfl ?_
  refine v_iload_n iX7_chill_1 rfl ?_
  refine c_V1 (Mc := mX7_isSection) iX7_chill_2 lX7_101 kX7_isSection (qX7_isSection σ α hn hn10 i hi) (by decide) rfl rfl rfl rfl (Nat.le_of_ble_eq_true rfl) ?_
  try simp only [Int.toNat_natCast]
  refine v_bif_ne (tgt := 11) iX7_chill_5 (by decide) (fun h5 => (by exfalso; simp at h5; omega)) (fun h5 => ?_)
  refine v_bipush iX7_chill_8 (by decide) ?_
  exact r_i iX7_chill_10 rfl (⟨cf_i (by rfl), rfl, rfl⟩)

set_option maxHeartbeats 4000000 in
set_option maxRecDepth 100000 in
theorem qX7_put_o (σ α : St) {n : Nat} (hn : σ 3 4 = (n : Int)) (hn10 : n ≤ 10) (i : Int) (hi : InR i) (hi2 : i < 0 ∨ (n : Int) ≤ i) (f g : Int) : CF 2 mX7_put [vR 0, vI i, vI f, vI g] σ α (some (vI (-2))) (σ) (α) := by
  refine CG.of [some (vR 0), some (vI i), some (vI f), some (vI g)] (by decide) (by simp [lvA]) rfl ?_
  refine v_aload_n iX7_put_0 rfl ?_
  refine v_iload_n iX7_put_1 rfl ?_
  refine c_V1 (Mc := mX7_isSection) iX7_put_2 lX7_101 kX7_isSection (qX7_isSection σ α hn hn10 i hi) (by decide) rfl rfl rfl rfl (Nat.le_of_ble_eq_true rfl) ?_
  try simp only [Int.toNat_natCast]
  refine v_bif_ne (tgt := 11) iX7_put_5 (by decide) (fun h5 => (by exfalso; simp at h5; omega)) (fun h5 => ?_)
  refine v_bipush iX7_put_8 (by decide) ?_
  exact r_i iX7_put_10 rfl (⟨cf_i (by rfl), rfl, rfl⟩)

set_option maxHeartbeats 4000000 in
set_option maxRecDepth 100000 in
theorem qX7_take_o (σ α : St) {m : Nat} (hm : σ 22 4 = (m : Int)) (hm6 : m ≤ 6) (r : Int) (hr : InR r) (hr2 : r < 0 ∨ (m : Int) ≤ r) : CF 2 mX7_take [vR 0, vI r] σ α (some (vI (-2))) (σ) (α) := by
  refine CG.of [some (vR 0), some (vI r)] (by decide) (by simp [lvA]) rfl ?_
  refine v_aload_n iX7_take_0 rfl ?_
  refine v_iload_n iX7_take_1 rfl ?_
  refine c_V1 (Mc := mX7_isRiser) iX7_take_2 lX7_160 kX7_isRiser (qX7_isRiser σ α hm hm6 r hr) (by decide) rfl rfl rfl rfl (Nat.le_of_ble_eq_true rfl) ?_
  try simp only [Int.toNat_natCast]
  refine v_bif_ne (tgt := 11) iX7_take_5 (by decide) (fun h5 => (by exfalso; simp at h5; omega)) (fun h5 => ?_)
  refine v_bipush iX7_take_8 (by decide) ?_
  exact r_i iX7_take_10 rfl (⟨cf_i (by rfl), rfl, rfl⟩)

set_option maxHeartbeats 4000000 in
set_option maxRecDepth 100000 in
theorem qX7_riser_o (σ α : St) {m : Nat} (hm : σ 22 4 = (m : Int)) (hm6 : m ≤ 6) (r : Int) (hr : InR r) (hr2 : r < 0 ∨ (m : Int) ≤ r) (f : Int) : CF 2 mX7_riser [vR 0, vI r, vI f] σ α (some (vI (-2))) (σ) (α) := by
  refine CG.of [some (vR 0), some (vI r), some (vI f)] (by decide) (by simp [lvA]) rfl ?_
  refine v_aload_n iX7_riser_0 rfl ?_
  refine v_iload_n iX7_riser_1 rfl ?_
  refine c_V1 (Mc := mX7_isRiser) iX7_riser_2 lX7_160 kX7_isRiser (qX7_isRiser σ α hm hm6 r hr) (by decide) rfl rfl rfl rfl (Nat.le_of_ble_eq_true rfl) ?_
  try simp only [Int.toNat_natCast]
  refine v_bif_ne (tgt := 11) iX7_riser_5 (by decide) (fun h5 => (by exfalso; simp at h5; omega)) (fun h5 => ?_)
  refine v_bipush iX7_riser_8 (by decide) ?_
  exact r_i iX7_riser_10 rfl (⟨cf_i (by rfl), rfl, rfl⟩)

set_option maxHeartbeats 4000000 in
set_option maxRecDepth 100000 in
theorem qX7_pass (σ α : St) {n : Nat} {V B N : Nat → Int} {c : Int} (hP : PV σ α n V B N c) (hW : WF n V B N) (a b : Nat) (ha : a < n) (hb : b < n) (hab : a ≠ b) : CG 6 mX7_pass [vR 0, vI (a : Int), vI (b : Int)] σ α (fun r' s' a' => r' = some (vI (if ((clm V B N n 10 a).1 : Int) = ((clm V B N n 10 b).1 : Int) then -1 else passR V B N n ((clm V B N n 10 a).1 : Int) ((clm V B N n 10 b).1 : Int))) ∧ Cq σ α s' a') := by
  have hn10 := hW.1
  have c1 := clm_lt (V := V) (B := B) (N := N) ha
  have c2 := clm_lt (V := V) (B := B) (N := N) hb
  refine CG.of [some (vR 0), some (vI (a : Int)), some (vI (b : Int))] (by decide) (by simp [lvA]) rfl ?_
  refine v_aload_n iX7_pass_0 rfl ?_
  refine v_iload_n iX7_pass_1 rfl ?_
  refine c_V1 (Mc := mX7_isSection) iX7_pass_2 lX7_101 kX7_isSection (qX7_isSection σ α hP.1 hn10 a (by omega)) (by decide) rfl rfl rfl rfl (Nat.le_of_ble_eq_true rfl) ?_
  try simp only [Int.toNat_natCast]
  refine v_bif_eq (tgt := 21) iX7_pass_5 (by decide) (fun h5 => (by exfalso; simp at h5; omega)) (fun h5 => ?_)
  refine v_aload_n iX7_pass_8 rfl ?_
  refine v_iload_n iX7_pass_9 rfl ?_
  refine c_V1 (Mc := mX7_isSection) iX7_pass_10 lX7_101 kX7_isSection (qX7_isSection σ α hP.1 hn10 b (by omega)) (by decide) rfl rfl rfl rfl (Nat.le_of_ble_eq_true rfl) ?_
  try simp only [Int.toNat_natCast]
  refine v_bif_eq (tgt := 21) iX7_pass_13 (by decide) (fun h13 => (by exfalso; simp at h13; omega)) (fun h13 => ?_)
  refine v_iload_n iX7_pass_16 rfl ?_
  refine v_iload_n iX7_pass_17 rfl ?_
  refine v_icmp_ne (tgt := 24) iX7_pass_18 (by decide) (by omega) (fun h18 => ?_) (fun h18 => (by exfalso; omega))
  refine v_aload_n iX7_pass_24 rfl ?_
  refine v_getR iX7_pass_25 fX7_62 rfl rfl ?_
  refine c_VN (Mc := mX3_settle) iX7_pass_28 lX7_105 kX3_settle (qX3_settle σ α hP hW) (by decide) rfl rfl rfl rfl (Nat.le_of_ble_eq_true rfl) ?_
  rintro σ1 α1 ⟨hs1, hA, hS⟩
  have hK := hS.1
  try simp only [Int.toNat_natCast]
  refine v_aload_n iX7_pass_31 rfl ?_
  refine v_getR iX7_pass_32 fX7_62 rfl rfl ?_
  refine v_aload_n iX7_pass_35 rfl ?_
  refine v_getR iX7_pass_36 fX7_62 rfl rfl ?_
  refine v_getR iX7_pass_39 fX7_137 rfl rfl ?_
  refine v_iload_n iX7_pass_42 rfl ?_
  refine v_iaload iX7_pass_43 rfl (by omega) (by exact (show _ = ((clm V B N n 10 a).1 : Int) by rw [Int.toNat_natCast]; exact (hS.2 a (by omega)).1)) ?_
  refine v_aload_n iX7_pass_44 rfl ?_
  refine v_getR iX7_pass_45 fX7_62 rfl rfl ?_
  refine v_getR iX7_pass_48 fX7_137 rfl rfl ?_
  refine v_iload_n iX7_pass_51 rfl ?_
  refine v_iaload iX7_pass_52 rfl (by omega) (by exact (show _ = ((clm V B N n 10 b).1 : Int) by rw [Int.toNat_natCast]; exact (hS.2 b (by omega)).1)) ?_
  refine c_V1 (Mc := mX3_passBetween) iX7_pass_53 lX7_211 kX3_passBetween (qX3_passBetween σ1 α1 hK hW (fun i hi => (hS.2 i hi).1) _ _ (by omega) (by omega)) (by decide) rfl rfl rfl rfl (Nat.le_of_ble_eq_true rfl) ?_
  try simp only [Int.toNat_natCast]
  exact r_i iX7_pass_56 rfl (⟨cf_i (by
      by_cases hh : ((clm V B N n 10 a).1 : Int) = ((clm V B N n 10 b).1 : Int)
      · rw [if_pos hh, pasB, if_pos hh]
      · rw [if_neg hh, pasB_eq hW hh]), ⟨⟨_, hs1⟩, hA⟩⟩)

set_option maxHeartbeats 4000000 in
set_option maxRecDepth 100000 in
theorem qX7_best (σ α : St) {n : Nat} {V B N : Nat → Int} {c : Int} (hP : PV σ α n V B N c) (hW : WF n V B N) {K C : Nat → Int} (hKC : ∀ i, i < n → α 5 i = K i ∧ α 23 i = C i ∧ (1 ≤ K i ∧ K i ≤ 99) ∧ (0 ≤ C i ∧ C i ≤ 9) ∧ B i = K i + 10 * C i) (k f : Int) (hk : InR k) (hf : InR f) : CG 6 mX7_best [vR 0, vI k, vI f] σ α (fun r' s' a' => r' = some (vI (if (1 ≤ k ∧ k ≤ 9) ∧ 0 ≤ f ∧ f ≤ 1 then (if f = 0 then (bstR (tcU V B N K C n k) n).1 else (bstR (tcU V B N K C n k) n).2) else -3)) ∧ Cq σ α s' a') := by
  have h10 := hW.1
  have hbr := bstK_r (tcU V B N K C n k) (fun j => tcU_r V B N K C n k j) n
  refine CG.of [some (vR 0), some (vI k), some (vI f), none] (by decide) (by simp [lvA]) rfl ?_
  refine v_iload_n iX7_best_0 rfl ?_
  refine c_S1 (Mc := mX7_isChillStep) iX7_best_1 lX7_188 kX7_isChillStep (qX7_isChillStep _ _ k hk) (by decide) rfl rfl (Nat.le_of_ble_eq_true rfl) ?_
  try simp only [Int.toNat_natCast]
  refine v_bif_eq (tgt := 16) iX7_best_4 (by decide) (fun h4 => ?_) (fun h4 => ?_)
  · try simp only [Int.toNat_natCast] at h4
    (try simp only [decide_eq_false_iff_not] at h4)
    refine v_bipush iX7_best_16 (by decide) ?_
    exact r_i iX7_best_18 rfl (⟨cf_i (by rw [if_neg (by omega)]), ⟨⟨σ 71 8, (uS_id σ 71 8).symm⟩, Agm.rf α⟩⟩)
  · try simp only [Int.toNat_natCast] at h4
    simp only [decide_eq_true_eq] at h4
    refine v_iload_n iX7_best_7 rfl ?_
    refine v_if_lt (tgt := 16) iX7_best_8 (by decide) (by omega) (fun h8 => ?_) (fun h8 => ?_)
    · (try simp only [decide_eq_false_iff_not] at h4)
      refine v_bipush iX7_best_16 (by decide) ?_
      exact r_i iX7_best_18 rfl (⟨cf_i (by rw [if_neg (by omega)]), ⟨⟨σ 71 8, (uS_id σ 71 8).symm⟩, Agm.rf α⟩⟩)
    · refine v_iload_n iX7_best_11 rfl ?_
      refine v_iconst iX7_best_12 ?_
      refine v_icmp_le (tgt := 19) iX7_best_13 (by decide) (by omega) (fun h13 => ?_) (fun h13 => ?_)
      · refine v_aload_n iX7_best_19 rfl ?_
        refine v_getR iX7_best_20 fX7_62 rfl rfl ?_
        refine c_VN (Mc := mX3_settle) iX7_best_23 lX7_105 kX3_settle (qX3_settle σ α hP hW) (by decide) rfl rfl rfl rfl (Nat.le_of_ble_eq_true rfl) ?_
        rintro σ1 α1 ⟨hs1, hA, hS⟩
        have hK := hS.1
        have hKC1 : ∀ i, i < n → α1 5 i = K i ∧ α1 23 i = C i ∧ (1 ≤ K i ∧ K i ≤ 99) ∧ (0 ≤ C i ∧ C i ≤ 9) ∧ B i = K i + 10 * C i := by rw [hA 5 (by omega), hA 23 (by omega)]; exact hKC
        try simp only [Int.toNat_natCast]
        refine v_aload_n iX7_best_26 rfl ?_
        refine v_getR iX7_best_27 fX7_62 rfl rfl ?_
        refine v_iload_n iX7_best_30 rfl ?_
        refine c_V1 (Mc := mX3_bestChilled) iX7_best_31 lX7_217 kX3_bestChilled (qX3_bestChilled σ1 α1 hK hW hKC1 k h4) (by decide) rfl rfl rfl rfl (Nat.le_of_ble_eq_true rfl) ?_
        try simp only [Int.toNat_natCast]
        refine v_is3 iX7_best_34 ⟨rfl, rfl⟩ ?_
        refine v_iload_n iX7_best_35 rfl ?_
        refine v_if_eq (tgt := 44) iX7_best_36 (by decide) (by omega) (fun h36 => ?_) (fun h36 => ?_)
        · refine v_iload_n iX7_best_44 rfl ?_
          exact r_i iX7_best_45 rfl (by first | exact ⟨cf_i (by rw [if_pos (by omega), if_pos h36, bstR_1]), ⟨⟨_, hs1⟩, hA⟩⟩ | exact ⟨cf_i (by rw [if_pos (by omega), if_neg h36, bstR_2y (fun j => tcU_r V B N K C n k j) h41, h41]), ⟨⟨_, hs1⟩, hA⟩⟩)
        · refine v_iload_n iX7_best_39 rfl ?_
          refine v_iconst iX7_best_40 ?_
          refine v_icmp_ne (tgt := 46) iX7_best_41 (by decide) (by omega) (fun h41 => ?_) (fun h41 => ?_)
          · obtain ⟨w, hw⟩ : ∃ w : Nat, (bstK (tcU V B N K C n k) n).1 = w := ⟨_, (Int.toNat_of_nonneg (by omega)).symm⟩
            rw [hw]
            refine v_aload_n iX7_best_46 rfl ?_
            refine v_getR iX7_best_47 fX7_62 rfl rfl ?_
            refine v_iload_n iX7_best_50 rfl ?_
            refine v_iload_n iX7_best_51 rfl ?_
            refine c_V1 (Mc := mX3_topsIfChilled) iX7_best_52 lX7_220 kX3_topsIfChilled (qX3_topsIfChilled σ1 α1 hK hW hKC1 k h4 w (by omega)) (by decide) rfl rfl rfl rfl (Nat.le_of_ble_eq_true rfl) ?_
            try simp only [Int.toNat_natCast]
            exact r_i iX7_best_55 rfl (⟨cf_i (by rw [if_pos (by omega), if_neg h36, bstR_2n (fun j => tcU_r V B N K C n k j) hw]), ⟨⟨_, hs1⟩, hA⟩⟩)
          · refine v_iload_n iX7_best_44 rfl ?_
            exact r_i iX7_best_45 rfl (by first | exact ⟨cf_i (by rw [if_pos (by omega), if_pos h36, bstR_1]), ⟨⟨_, hs1⟩, hA⟩⟩ | exact ⟨cf_i (by rw [if_pos (by omega), if_neg h36, bstR_2y (fun j => tcU_r V B N K C n k j) h41, h41]), ⟨⟨_, hs1⟩, hA⟩⟩)
      · (try simp only [decide_eq_false_iff_not] at h4)
        refine v_bipush iX7_best_16 (by decide) ?_
        exact r_i iX7_best_18 rfl (⟨cf_i (by rw [if_neg (by omega)]), ⟨⟨σ 71 8, (uS_id σ 71 8).symm⟩, Agm.rf α⟩⟩)

set_option maxHeartbeats 4000000 in
set_option maxRecDepth 100000 in
theorem qX7_section (σ α : St) {n : Nat} {V B N : Nat → Int} {c : Int} (hP : PV σ α n V B N c) (hW : WF n V B N) (i : Nat) (hi : i < n) (f : Int) (hf : InR f) : CG 6 mX7_section [vR 0, vI (i : Int), vI f] σ α (fun r' s' a' => r' = some (vI (secU (V i) (α 5 i) (α 23 i) (N i) (B i) (topR V B N n i) (clm V B N n 10 i).1 (clm V B N n 10 i).2 f)) ∧ Cq σ α s' a') := by
  have hn10 := hW.1
  have hwi := hW.2 i hi
  have hpi := hP.2.2.2 i hi
  have hg := gcd_le (x := V i) (y := B i) (by omega)
  refine CG.of [some (vR 0), some (vI (i : Int)), some (vI f)] (by decide) (by simp [lvA]) rfl ?_
  refine v_aload_n iX7_section_0 rfl ?_
  refine v_iload_n iX7_section_1 rfl ?_
  refine c_V1 (Mc := mX7_isSection) iX7_section_2 lX7_101 kX7_isSection (qX7_isSection σ α hP.1 hn10 i (by omega)) (by decide) rfl rfl rfl rfl (Nat.le_of_ble_eq_true rfl) ?_
  try simp only [Int.toNat_natCast]
  refine v_bif_ne (tgt := 11) iX7_section_5 (by decide) (fun h5 => ?_) (fun h5 => (by exfalso; simp at h5; omega))
  refine v_iload_n iX7_section_11 rfl ?_
  refine v_if_lt (tgt := 21) iX7_section_12 (by decide) (by omega) (fun h12 => ?_) (fun h12 => ?_)
  · refine v_bipush iX7_section_21 (by decide) ?_
    exact r_i iX7_section_23 rfl (⟨cf_i (secU_o (by omega)).symm, ⟨⟨σ 71 8, (uS_id σ 71 8).symm⟩, Agm.rf α⟩⟩)
  · refine v_iload_n iX7_section_15 rfl ?_
    refine v_bipush iX7_section_16 (by decide) ?_
    refine v_icmp_le (tgt := 24) iX7_section_18 (by decide) (by omega) (fun h18 => ?_) (fun h18 => ?_)
    · refine v_aload_n iX7_section_24 rfl ?_
      refine v_getR iX7_section_25 fX7_62 rfl rfl ?_
      refine c_VN (Mc := mX3_settle) iX7_section_28 lX7_105 kX3_settle (qX3_settle σ α hP hW) (by decide) rfl rfl rfl rfl (Nat.le_of_ble_eq_true rfl) ?_
      rintro σ1 α1 ⟨hs1, hA, hS⟩
      have hK := hS.1
      try simp only [Int.toNat_natCast]
      refine v_iload_n iX7_section_31 rfl ?_
      rcases (show f = 0 ∨ f = 1 ∨ f = 2 ∨ f = 3 ∨ f = 4 ∨ f = 5 ∨ f = 6 ∨ f = 7 ∨ (f < 0 ∨ 7 < f) by omega) with rfl | rfl | rfl | rfl | rfl | rfl | rfl | rfl | hsw
      · refine v_tabIn (tgt := 80) iX7_section_32 (by decide) (by decide) rfl (by decide) ?_
        refine v_aload_n iX7_section_80 rfl ?_
        refine v_getR iX7_section_81 fX7_19 rfl rfl ?_
        refine v_getR iX7_section_84 fX7_108 rfl rfl ?_
        refine v_iload_n iX7_section_87 rfl ?_
        refine v_iaload iX7_section_88 rfl (by omega) (by exact (show _ = V i by rw [Int.toNat_natCast, hA 4 (by omega)]; exact hpi.1)) ?_
        exact r_i iX7_section_89 rfl (⟨rfl, ⟨⟨_, hs1⟩, hA⟩⟩)
      · refine v_tabIn (tgt := 90) iX7_section_32 (by decide) (by decide) rfl (by decide) ?_
        refine v_aload_n iX7_section_90 rfl ?_
        refine v_getR iX7_section_91 fX7_19 rfl rfl ?_
        refine v_getR iX7_section_94 fX7_111 rfl rfl ?_
        refine v_iload_n iX7_section_97 rfl ?_
        refine v_iaload iX7_section_98 rfl (by omega) (by exact (show _ = α 5 i by rw [Int.toNat_natCast, hA 5 (by omega)])) ?_
        exact r_i iX7_section_99 rfl (⟨rfl, ⟨⟨_, hs1⟩, hA⟩⟩)
      · refine v_tabIn (tgt := 100) iX7_section_32 (by decide) (by decide) rfl (by decide) ?_
        refine v_aload_n iX7_section_100 rfl ?_
        refine v_getR iX7_section_101 fX7_38 rfl rfl ?_
        refine v_getR iX7_section_104 fX7_114 rfl rfl ?_
        refine v_iload_n iX7_section_107 rfl ?_
        refine v_iaload iX7_section_108 rfl (by omega) (by exact (show _ = α 23 i by rw [Int.toNat_natCast, hA 23 (by omega)])) ?_
        exact r_i iX7_section_109 rfl (⟨rfl, ⟨⟨_, hs1⟩, hA⟩⟩)
      · refine v_tabIn (tgt := 110) iX7_section_32 (by decide) (by decide) rfl (by decide) ?_
        refine v_aload_n iX7_section_110 rfl ?_
        refine v_getR iX7_section_111 fX7_19 rfl rfl ?_
        refine v_getR iX7_section_114 fX7_117 rfl rfl ?_
        refine v_iload_n iX7_section_117 rfl ?_
        refine v_iaload iX7_section_118 rfl (by omega) (by exact (show _ = N i by rw [Int.toNat_natCast, hA 6 (by omega)]; exact hpi.2.2)) ?_
        exact r_i iX7_section_119 rfl (⟨rfl, ⟨⟨_, hs1⟩, hA⟩⟩)
      · refine v_tabIn (tgt := 120) iX7_section_32 (by decide) (by decide) rfl (by decide) ?_
        refine v_aload_n iX7_section_120 rfl ?_
        refine v_getR iX7_section_121 fX7_62 rfl rfl ?_
        refine v_getR iX7_section_124 fX7_120 rfl rfl ?_
        refine v_iload_n iX7_section_127 rfl ?_
        refine v_iaload iX7_section_128 rfl (by omega) (by exact (show _ = V i by rw [Int.toNat_natCast]; exact (hK.2 i hi).1)) ?_
        refine v_aload_n iX7_section_129 rfl ?_
        refine v_getR iX7_section_130 fX7_62 rfl rfl ?_
        refine v_iload_n iX7_section_133 rfl ?_
        refine c_V1 (Mc := mX3_commonPart) iX7_section_134 lX7_123 kX3_commonPart (qX3_commonPart σ1 α1 hK hW i (by omega)) (by decide) rfl rfl rfl rfl (Nat.le_of_ble_eq_true rfl) ?_
        try simp only [Int.toNat_natCast]
        refine v_idiv iX7_section_137 (by omega) (by omega) ?_
        exact r_i iX7_section_138 rfl (⟨rfl, ⟨⟨_, hs1⟩, hA⟩⟩)
      · refine v_tabIn (tgt := 139) iX7_section_32 (by decide) (by decide) rfl (by decide) ?_
        refine v_aload_n iX7_section_139 rfl ?_
        refine v_getR iX7_section_140 fX7_62 rfl rfl ?_
        refine v_getR iX7_section_143 fX7_127 rfl rfl ?_
        refine v_iload_n iX7_section_146 rfl ?_
        refine v_iaload iX7_section_147 rfl (by omega) (by exact (show _ = B i by rw [Int.toNat_natCast]; exact (hK.2 i hi).2.1)) ?_
        refine v_aload_n iX7_section_148 rfl ?_
        refine v_getR iX7_section_149 fX7_62 rfl rfl ?_
        refine v_iload_n iX7_section_152 rfl ?_
        refine c_V1 (Mc := mX3_commonPart) iX7_section_153 lX7_123 kX3_commonPart (qX3_commonPart σ1 α1 hK hW i (by omega)) (by decide) rfl rfl rfl rfl (Nat.le_of_ble_eq_true rfl) ?_
        try simp only [Int.toNat_natCast]
        refine v_idiv iX7_section_156 (by omega) (by omega) ?_
        exact r_i iX7_section_157 rfl (⟨rfl, ⟨⟨_, hs1⟩, hA⟩⟩)
      · refine v_tabIn (tgt := 158) iX7_section_32 (by decide) (by decide) rfl (by decide) ?_
        refine v_aload_n iX7_section_158 rfl ?_
        refine v_getR iX7_section_159 fX7_62 rfl rfl ?_
        refine v_iload_n iX7_section_162 rfl ?_
        refine c_V1 (Mc := mX3_isTop) iX7_section_163 lX7_130 kX3_isTop (qX3_isTop σ1 α1 hK hW i (by omega)) (by decide) rfl rfl rfl rfl (Nat.le_of_ble_eq_true rfl) ?_
        try simp only [Int.toNat_natCast]
        refine c_S1 (Mc := mX7_oneIf) iX7_section_166 lX7_133 kX7_oneIf (qX7_oneIf _ _ _) (by decide) rfl rfl (Nat.le_of_ble_eq_true rfl) ?_
        try simp only [Int.toNat_natCast]
        exact r_i iX7_section_169 rfl (⟨rfl, ⟨⟨_, hs1⟩, hA⟩⟩)
      · refine v_tabIn (tgt := 170) iX7_section_32 (by decide) (by decide) rfl (by decide) ?_
        refine v_aload_n iX7_section_170 rfl ?_
        refine v_getR iX7_section_171 fX7_62 rfl rfl ?_
        refine v_getR iX7_section_174 fX7_137 rfl rfl ?_
        refine v_iload_n iX7_section_177 rfl ?_
        refine v_iaload iX7_section_178 rfl (by omega) (by exact (show _ = ((clm V B N n 10 i).1 : Int) by rw [Int.toNat_natCast]; exact (hS.2 i hi).1)) ?_
        exact r_i iX7_section_179 rfl (⟨rfl, ⟨⟨_, hs1⟩, hA⟩⟩)
      · refine v_tabOut (tgt := 180) iX7_section_32 (by omega) hsw (by decide) ?_
        refine v_aload_n iX7_section_180 rfl ?_
        refine v_getR iX7_section_181 fX7_62 rfl rfl ?_
        refine v_getR iX7_section_184 fX7_140 rfl rfl ?_
        refine v_iload_n iX7_section_187 rfl ?_
        refine v_iaload iX7_section_188 rfl (by omega) (by exact (show _ = ((clm V B N n 10 i).2 : Int) by rw [Int.toNat_natCast]; exact (hS.2 i hi).2.1)) ?_
        exact r_i iX7_section_189 rfl (⟨cf_i (by rw [show f = 8 by omega]; rfl), ⟨⟨_, hs1⟩, hA⟩⟩)
    · refine v_bipush iX7_section_21 (by decide) ?_
      exact r_i iX7_section_23 rfl (⟨cf_i (secU_o (by omega)).symm, ⟨⟨σ 71 8, (uS_id σ 71 8).symm⟩, Agm.rf α⟩⟩)

set_option maxHeartbeats 4000000 in
set_option maxRecDepth 100000 in
theorem qX7_riser (σ α : St) {n : Nat} {V B N : Nat → Int} {c : Int} (hP : PV σ α n V B N c) (hW : WF n V B N) {a b : Int} (hU : RP σ a b) {m : Nat} (hM : RK σ α n m) (r : Nat) (hr : r < m) (f : Int) (hf : InR f) : CG 6 mX7_riser [vR 0, vI (r : Int), vI f] σ α (fun r' s' a' => r' = some (vI (risU (α 24 r) (α 25 r) (α 26 r) ((((fedR a b V B N n (fun i => (hds c V B N n i : Int)) (α 24) (α 25) (α 26) m (2 ^ m - 1 : Nat) : Nat)) ^^^ ((fedR a b V B N n (fun i => (hds c V B N n i : Int)) (α 24) (α 25) (α 26) m (2 ^ m - 1 : Nat) : Nat) &&& (fedR a b V B N n (fun i => (hds c V B N n i : Int)) (α 24) (α 25) (α 26) m (((2 ^ m - 1) ^^^ ((2 ^ m - 1) &&& 2 ^ r) : Nat)) : Nat)) : Nat) : Int) f)) ∧ Cq σ α s' a') := by
  have hm6 := hM.2.1
  refine CG.of [some (vR 0), some (vI (r : Int)), some (vI f)] (by decide) (by simp [lvA]) rfl ?_
  refine v_aload_n iX7_riser_0 rfl ?_
  refine v_iload_n iX7_riser_1 rfl ?_
  refine c_V1 (Mc := mX7_isRiser) iX7_riser_2 lX7_160 kX7_isRiser (qX7_isRiser σ α hM.1 hm6 r (by omega)) (by decide) rfl rfl rfl rfl (Nat.le_of_ble_eq_true rfl) ?_
  try simp only [Int.toNat_natCast]
  refine v_bif_ne (tgt := 11) iX7_riser_5 (by decide) (fun h5 => ?_) (fun h5 => (by exfalso; simp at h5; omega))
  refine v_iload_n iX7_riser_11 rfl ?_
  rcases (show f = 0 ∨ f = 1 ∨ f = 2 ∨ f = 3 ∨ (f < 0 ∨ 3 < f) by omega) with rfl | rfl | rfl | rfl | hsw
  · refine v_tabIn (tgt := 44) iX7_riser_12 (by decide) (by decide) rfl (by decide) ?_
    refine v_aload_n iX7_riser_44 rfl ?_
    refine v_getR iX7_riser_45 fX7_38 rfl rfl ?_
    refine v_getR iX7_riser_48 fX7_163 rfl rfl ?_
    refine v_iload_n iX7_riser_51 rfl ?_
    refine v_iaload iX7_riser_52 rfl (by omega) (by exact (show _ = α 24 r by rw [Int.toNat_natCast])) ?_
    exact r_i iX7_riser_53 rfl (⟨rfl, ⟨⟨σ 71 8, (uS_id σ 71 8).symm⟩, Agm.rf α⟩⟩)
  · refine v_tabIn (tgt := 54) iX7_riser_12 (by decide) (by decide) rfl (by decide) ?_
    refine v_aload_n iX7_riser_54 rfl ?_
    refine v_getR iX7_riser_55 fX7_38 rfl rfl ?_
    refine v_getR iX7_riser_58 fX7_166 rfl rfl ?_
    refine v_iload_n iX7_riser_61 rfl ?_
    refine v_iaload iX7_riser_62 rfl (by omega) (by exact (show _ = α 25 r by rw [Int.toNat_natCast])) ?_
    exact r_i iX7_riser_63 rfl (⟨rfl, ⟨⟨σ 71 8, (uS_id σ 71 8).symm⟩, Agm.rf α⟩⟩)
  · refine v_tabIn (tgt := 64) iX7_riser_12 (by decide) (by decide) rfl (by decide) ?_
    refine v_aload_n iX7_riser_64 rfl ?_
    refine v_getR iX7_riser_65 fX7_38 rfl rfl ?_
    refine v_getR iX7_riser_68 fX7_167 rfl rfl ?_
    refine v_iload_n iX7_riser_71 rfl ?_
    refine v_iaload iX7_riser_72 rfl (by omega) (by exact (show _ = α 26 r by rw [Int.toNat_natCast])) ?_
    exact r_i iX7_riser_73 rfl (⟨rfl, ⟨⟨σ 71 8, (uS_id σ 71 8).symm⟩, Agm.rf α⟩⟩)
  · refine v_tabIn (tgt := 74) iX7_riser_12 (by decide) (by decide) rfl (by decide) ?_
    refine v_aload_n iX7_riser_74 rfl ?_
    refine v_getR iX7_riser_75 fX7_62 rfl rfl ?_
    refine c_VN (Mc := mX3_settle) iX7_riser_78 lX7_105 kX3_settle (qX3_settle σ α hP hW) (by decide) rfl rfl rfl rfl (Nat.le_of_ble_eq_true rfl) ?_
    rintro σ1 α1 ⟨hs1, hA, hS⟩
    have hK := hS.1
    have hU1 : RP σ1 a b := by rw [hs1]; exact hU
    have hM1 : RK σ1 α1 n m := by unfold RK; rw [hA 24 (by omega), hA 25 (by omega), hA 26 (by omega), hs1]; exact hM
    try simp only [Int.toNat_natCast]
    refine v_aload_n iX7_riser_81 rfl ?_
    refine v_getR iX7_riser_82 fX7_62 rfl rfl ?_
    refine v_iload_n iX7_riser_85 rfl ?_
    refine c_V1 (Mc := mX3_starvedBy) iX7_riser_86 lX7_168 kX3_starvedBy (qX3_starvedBy σ1 α1 hS hW hU1 hM1 r (by omega)) (by decide) rfl rfl rfl rfl (Nat.le_of_ble_eq_true rfl) ?_
    try simp only [Int.toNat_natCast]
    exact r_i iX7_riser_89 rfl (⟨cf_i (by rw [hA 24 (by omega), hA 25 (by omega), hA 26 (by omega)]; rfl), ⟨⟨_, hs1⟩, hA⟩⟩)
  · refine v_tabOut (tgt := 90) iX7_riser_12 (by omega) hsw (by decide) ?_
    refine v_bipush iX7_riser_90 (by decide) ?_
    exact r_i iX7_riser_92 rfl (⟨cf_i (risU_o hsw).symm, ⟨⟨σ 71 8, (uS_id σ 71 8).symm⟩, Agm.rf α⟩⟩)
