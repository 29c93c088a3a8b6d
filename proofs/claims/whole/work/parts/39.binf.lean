set_option maxHeartbeats 4000000 in
set_option maxRecDepth 100000 in
theorem qX7_bin_o (σ α : St) (t : Int) (ht : InR t) (hto : t < 0 ∨ 3 ≤ t) (kk : Int) : CF 1 mX7_bin [vR 0, vI t, vI kk] σ α (some (vI (-2))) (σ) (α) := by
  refine CG.of [some (vR 0), some (vI t), some (vI kk)] (by decide) (by simp [lvA]) rfl ?_
  refine v_iload_n iX7_bin_0 rfl ?_
  refine c_S1 (Mc := mX7_isBin) iX7_bin_1 lX7_226 kX7_isBin (qX7_isBin σ α _ (by assumption)) (by decide) rfl rfl (Nat.le_of_ble_eq_true rfl) ?_
  try simp only [Int.toNat_natCast]
  refine v_bif_ne (tgt := 10) iX7_bin_4 (by decide) (fun h4 => (by exfalso; simp at h4; omega)) (fun h4 => ?_)
  refine v_bipush iX7_bin_7 (by decide) ?_
  exact r_i iX7_bin_9 rfl (⟨cf_i (by rfl), rfl, rfl⟩)

set_option maxHeartbeats 4000000 in
set_option maxRecDepth 100000 in
theorem qX7_addWhole_o (σ α : St) (t : Int) (ht : InR t) (hto : t < 0 ∨ 3 ≤ t) (v : Int) : CF 1 mX7_addWhole [vR 0, vI t, vI v] σ α (some (vI (-2))) (σ) (α) := by
  refine CG.of [some (vR 0), some (vI t), some (vI v)] (by decide) (by simp [lvA]) rfl ?_
  refine v_iload_n iX7_addWhole_0 rfl ?_
  refine c_S1 (Mc := mX7_isBin) iX7_addWhole_1 lX7_226 kX7_isBin (qX7_isBin σ α _ (by assumption)) (by decide) rfl rfl (Nat.le_of_ble_eq_true rfl) ?_
  try simp only [Int.toNat_natCast]
  refine v_bif_ne (tgt := 10) iX7_addWhole_4 (by decide) (fun h4 => (by exfalso; simp at h4; omega)) (fun h4 => ?_)
  refine v_bipush iX7_addWhole_7 (by decide) ?_
  exact r_i iX7_addWhole_9 rfl (⟨cf_i (by rfl), rfl, rfl⟩)

set_option maxHeartbeats 4000000 in
set_option maxRecDepth 100000 in
theorem qX7_addPair_o (σ α : St) (t : Int) (ht : InR t) (hto : t < 0 ∨ 3 ≤ t) (a b : Int) : CF 1 mX7_addPair [vR 0, vI t, vI a, vI b] σ α (some (vI (-2))) (σ) (α) := by
  refine CG.of [some (vR 0), some (vI t), some (vI a), some (vI b)] (by decide) (by simp [lvA]) rfl ?_
  refine v_iload_n iX7_addPair_0 rfl ?_
  refine c_S1 (Mc := mX7_isBin) iX7_addPair_1 lX7_226 kX7_isBin (qX7_isBin σ α _ (by assumption)) (by decide) rfl rfl (Nat.le_of_ble_eq_true rfl) ?_
  try simp only [Int.toNat_natCast]
  refine v_bif_ne (tgt := 10) iX7_addPair_4 (by decide) (fun h4 => (by exfalso; simp at h4; omega)) (fun h4 => ?_)
  refine v_bipush iX7_addPair_7 (by decide) ?_
  exact r_i iX7_addPair_9 rfl (⟨cf_i (by rfl), rfl, rfl⟩)

set_option maxHeartbeats 4000000 in
set_option maxRecDepth 100000 in
theorem qX7_find_o (σ α : St) (t : Int) (ht : InR t) (hto : t < 0 ∨ 3 ≤ t) (w : Int) : CF 1 mX7_find [vR 0, vI t, vI w] σ α (some (vI (-2))) (σ) (α) := by
  refine CG.of [some (vR 0), some (vI t), some (vI w), none] (by decide) (by simp [lvA]) rfl ?_
  refine v_iload_n iX7_find_0 rfl ?_
  refine c_S1 (Mc := mX7_isBin) iX7_find_1 lX7_226 kX7_isBin (qX7_isBin σ α _ (by assumption)) (by decide) rfl rfl (Nat.le_of_ble_eq_true rfl) ?_
  try simp only [Int.toNat_natCast]
  refine v_bif_ne (tgt := 10) iX7_find_4 (by decide) (fun h4 => (by exfalso; simp at h4; omega)) (fun h4 => ?_)
  refine v_bipush iX7_find_7 (by decide) ?_
  exact r_i iX7_find_9 rfl (⟨cf_i (by rfl), rfl, rfl⟩)

set_option maxHeartbeats 4000000 in
set_option maxRecDepth 100000 in
theorem qX7_pop_o (σ α : St) (t : Int) (ht : InR t) (hto : t < 0 ∨ 3 ≤ t) : CF 1 mX7_pop [vR 0, vI t] σ α (some (vI (-2))) (σ) (α) := by
  refine CG.of [some (vR 0), some (vI t), none] (by decide) (by simp [lvA]) rfl ?_
  refine v_iload_n iX7_pop_0 rfl ?_
  refine c_S1 (Mc := mX7_isBin) iX7_pop_1 lX7_226 kX7_isBin (qX7_isBin σ α _ (by assumption)) (by decide) rfl rfl (Nat.le_of_ble_eq_true rfl) ?_
  try simp only [Int.toNat_natCast]
  refine v_bif_ne (tgt := 10) iX7_pop_4 (by decide) (fun h4 => (by exfalso; simp at h4; omega)) (fun h4 => ?_)
  refine v_bipush iX7_pop_7 (by decide) ?_
  exact r_i iX7_pop_9 rfl (⟨cf_i (by rfl), rfl, rfl⟩)

set_option maxHeartbeats 4000000 in
set_option maxRecDepth 100000 in
theorem qX7_sort_o (σ α : St) (t : Int) (ht : InR t) (hto : t < 0 ∨ 3 ≤ t) : CF 1 mX7_sort [vR 0, vI t] σ α (some (vI (-2))) (σ) (α) := by
  refine CG.of [some (vR 0), some (vI t), none] (by decide) (by simp [lvA]) rfl ?_
  refine v_iload_n iX7_sort_0 rfl ?_
  refine c_S1 (Mc := mX7_isBin) iX7_sort_1 lX7_226 kX7_isBin (qX7_isBin σ α _ (by assumption)) (by decide) rfl rfl (Nat.le_of_ble_eq_true rfl) ?_
  try simp only [Int.toNat_natCast]
  refine v_bif_ne (tgt := 10) iX7_sort_4 (by decide) (fun h4 => (by exfalso; simp at h4; omega)) (fun h4 => ?_)
  refine v_bipush iX7_sort_7 (by decide) ?_
  exact r_i iX7_sort_9 rfl (⟨cf_i (by rfl), rfl, rfl⟩)

set_option maxHeartbeats 4000000 in
set_option maxRecDepth 100000 in
theorem qX7_sum_o (σ α : St) (t : Int) (ht : InR t) (hto : t < 0 ∨ 3 ≤ t) : CF 1 mX7_sum [vR 0, vI t] σ α (some (vI (-2))) (σ) (α) := by
  refine CG.of [some (vR 0), some (vI t)] (by decide) (by simp [lvA]) rfl ?_
  refine v_iload_n iX7_sum_0 rfl ?_
  refine c_S1 (Mc := mX7_isBin) iX7_sum_1 lX7_226 kX7_isBin (qX7_isBin σ α _ (by assumption)) (by decide) rfl rfl (Nat.le_of_ble_eq_true rfl) ?_
  try simp only [Int.toNat_natCast]
  refine v_bif_ne (tgt := 10) iX7_sum_4 (by decide) (fun h4 => (by exfalso; simp at h4; omega)) (fun h4 => ?_)
  refine v_bipush iX7_sum_7 (by decide) ?_
  exact r_i iX7_sum_9 rfl (⟨cf_i (by rfl), rfl, rfl⟩)

set_option maxHeartbeats 4000000 in
set_option maxRecDepth 100000 in
theorem qX7_drop_o (σ α : St) (t : Int) (ht : InR t) (hto : t < 0 ∨ 3 ≤ t) : CF 1 mX7_drop [vR 0, vI t] σ α (some (vI (-2))) (σ) (α) := by
  refine CG.of [some (vR 0), some (vI t), none] (by decide) (by simp [lvA]) rfl ?_
  refine v_iload_n iX7_drop_0 rfl ?_
  refine c_S1 (Mc := mX7_isBin) iX7_drop_1 lX7_226 kX7_isBin (qX7_isBin σ α _ (by assumption)) (by decide) rfl rfl (Nat.le_of_ble_eq_true rfl) ?_
  try simp only [Int.toNat_natCast]
  refine v_bif_ne (tgt := 10) iX7_drop_4 (by decide) (fun h4 => (by exfalso; simp at h4; omega)) (fun h4 => ?_)
  refine v_bipush iX7_drop_7 (by decide) ?_
  exact r_i iX7_drop_9 rfl (⟨cf_i (by rfl), rfl, rfl⟩)

set_option maxHeartbeats 4000000 in
set_option maxRecDepth 100000 in
theorem qX7_bin (σ α : St) (k : Nat) (hk : k < 3) {z kd : Int} {f : Nat → Int} (hB : BK σ α (89 + 2 * k) z kd f) (kk : Int) (hkk : InR kk) : CG 1 mX7_bin [vR 0, vI (k : Int), vI kk] σ α (fun r' s' a' => r' = some (vI (if kk = 0 ∨ kk = 1 then 0 else -3)) ∧ BK s' a' (89 + 2 * k) (if kk = 0 ∨ kk = 1 then 0 else z) (if kk = 0 ∨ kk = 1 then kk else kd) (f) ∧ FrB (89 + 2 * k) σ α s' a') := by
  have b0 := (isBin_at k hk).1
  have hms := hB.ms
  have hsz := hB.sz
  have hkd := hB.kd
  have hf8 := hB.f8
  refine CG.of [some (vR 0), some (vI (k : Int)), some (vI kk)] (by decide) (by simp [lvA]) rfl ?_
  refine v_iload_n iX7_bin_0 rfl ?_
  refine c_S1 (Mc := mX7_isBin) iX7_bin_1 lX7_226 kX7_isBin (qX7_isBin σ α _ (by omega)) (by decide) rfl rfl (Nat.le_of_ble_eq_true rfl) ?_
  try simp only [Int.toNat_natCast]
  refine v_bif_ne (tgt := 10) iX7_bin_4 (by decide) (fun h4 => ?_) (fun h4 => (by exfalso; simp at h4; omega))
  refine v_iload_n iX7_bin_10 rfl ?_
  refine v_if_eq (tgt := 22) iX7_bin_11 (by decide) (by omega) (fun h11 => ?_) (fun h11 => ?_)
  · refine v_aload_n iX7_bin_22 rfl ?_
    refine v_getR iX7_bin_23 fX7_68 (by first | rfl | exact (isBin_at k hk).1 | exact (isBin_at k hk).2) rfl ?_
    refine v_iload_n iX7_bin_26 rfl ?_
    refine v_aaload iX7_bin_27 rfl (by decide) (by simp only [List.length_cons, List.length_nil]; omega) (bins_at k hk) ?_
    refine v_iload_n iX7_bin_28 rfl ?_
    refine c_V0 (Mc := mX0_begin) iX7_bin_29 lX7_229 kX0_begin (qX0_begin σ α _ (isBin_at k hk) kk) (by decide) rfl (by first | rfl | exact (isBin_at k hk).1 | exact (isBin_at k hk).2) rfl rfl (Nat.le_of_ble_eq_true rfl) ?_
    try simp only [Int.toNat_natCast]
    refine v_iconst iX7_bin_32 ?_
    exact r_i iX7_bin_33 rfl (⟨cf_i (by first | (simp [h11]; done) | (simp [h16]; done)), by (have e : kk = 0 ∨ kk = 1 := by first | exact Or.inl h11 | exact Or.inr h16); rw [if_pos e, if_pos e]; exact ⟨Or.inr ⟨by simp [uS], by simp [uS], by omega, by omega⟩, by simp [uS], e, hB.2.2.2⟩, (((FrB.rf _ _ _).s _).s _).s _⟩)
  · refine v_iload_n iX7_bin_14 rfl ?_
    refine v_iconst iX7_bin_15 ?_
    refine v_icmp_eq (tgt := 22) iX7_bin_16 (by decide) (by omega) (fun h16 => ?_) (fun h16 => ?_)
    · refine v_aload_n iX7_bin_22 rfl ?_
      refine v_getR iX7_bin_23 fX7_68 (by first | rfl | exact (isBin_at k hk).1 | exact (isBin_at k hk).2) rfl ?_
      refine v_iload_n iX7_bin_26 rfl ?_
      refine v_aaload iX7_bin_27 rfl (by decide) (by simp only [List.length_cons, List.length_nil]; omega) (bins_at k hk) ?_
      refine v_iload_n iX7_bin_28 rfl ?_
      refine c_V0 (Mc := mX0_begin) iX7_bin_29 lX7_229 kX0_begin (qX0_begin σ α _ (isBin_at k hk) kk) (by decide) rfl (by first | rfl | exact (isBin_at k hk).1 | exact (isBin_at k hk).2) rfl rfl (Nat.le_of_ble_eq_true rfl) ?_
      try simp only [Int.toNat_natCast]
      refine v_iconst iX7_bin_32 ?_
      exact r_i iX7_bin_33 rfl (⟨cf_i (by first | (simp [h11]; done) | (simp [h16]; done)), by (have e : kk = 0 ∨ kk = 1 := by first | exact Or.inl h11 | exact Or.inr h16); rw [if_pos e, if_pos e]; exact ⟨Or.inr ⟨by simp [uS], by simp [uS], by omega, by omega⟩, by simp [uS], e, hB.2.2.2⟩, (((FrB.rf _ _ _).s _).s _).s _⟩)
    · refine v_bipush iX7_bin_19 (by decide) ?_
      exact r_i iX7_bin_21 rfl (⟨cf_i (by simp [h11, h16]), by simp [h11, h16]; exact hB, FrB.rf _ _ _⟩)

set_option maxHeartbeats 4000000 in
set_option maxRecDepth 100000 in
theorem qX7_addWhole (σ α : St) (k : Nat) (hk : k < 3) {z kd : Int} {f : Nat → Int} (hB : BK σ α (89 + 2 * k) z kd f) (v : Int) (hv : InR v) : CG 1 mX7_addWhole [vR 0, vI (k : Int), vI v] σ α (fun r' s' a' => r' = some (vI (if -999 ≤ v ∧ v ≤ 999 then abR z kd 0 else -3)) ∧ BK s' a' (89 + 2 * k) (if -999 ≤ v ∧ v ≤ 999 then abZ z kd 0 else z) (kd) (if -999 ≤ v ∧ v ≤ 999 then abF z kd 0 f (v + 20000) else f) ∧ FrB (89 + 2 * k) σ α s' a') := by
  have b0 := (isBin_at k hk).1
  have hms := hB.ms
  have hsz := hB.sz
  have hkd := hB.kd
  have hf8 := hB.f8
  refine CG.of [some (vR 0), some (vI (k : Int)), some (vI v)] (by decide) (by simp [lvA]) rfl ?_
  refine v_iload_n iX7_addWhole_0 rfl ?_
  refine c_S1 (Mc := mX7_isBin) iX7_addWhole_1 lX7_226 kX7_isBin (qX7_isBin σ α _ (by omega)) (by decide) rfl rfl (Nat.le_of_ble_eq_true rfl) ?_
  try simp only [Int.toNat_natCast]
  refine v_bif_ne (tgt := 10) iX7_addWhole_4 (by decide) (fun h4 => ?_) (fun h4 => (by exfalso; simp at h4; omega))
  refine v_iload_n iX7_addWhole_10 rfl ?_
  refine v_sipush iX7_addWhole_11 (by decide) ?_
  refine v_icmp_lt (tgt := 24) iX7_addWhole_14 (by decide) (by omega) (fun h14 => ?_) (fun h14 => ?_)
  · refine v_bipush iX7_addWhole_24 (by decide) ?_
    exact r_i iX7_addWhole_26 rfl (⟨cf_i (by rw [if_neg (by omega)]), by rw [if_neg (by omega), if_neg (by omega)]; exact hB, FrB.rf _ _ _⟩)
  · refine v_iload_n iX7_addWhole_17 rfl ?_
    refine v_sipush iX7_addWhole_18 (by decide) ?_
    refine v_icmp_le (tgt := 27) iX7_addWhole_21 (by decide) (by omega) (fun h21 => ?_) (fun h21 => ?_)
    · have hadd := hB.add (kk := 0) (x := v + 20000) (by omega)
      refine v_aload_n iX7_addWhole_27 rfl ?_
      refine v_getR iX7_addWhole_28 fX7_68 (by first | rfl | exact (isBin_at k hk).1 | exact (isBin_at k hk).2) rfl ?_
      refine v_iload_n iX7_addWhole_31 rfl ?_
      refine v_aaload iX7_addWhole_32 rfl (by decide) (by simp only [List.length_cons, List.length_nil]; omega) (bins_at k hk) ?_
      refine v_iconst iX7_addWhole_33 ?_
      refine v_iload_n iX7_addWhole_34 rfl ?_
      refine v_sipush iX7_addWhole_35 (by decide) ?_
      refine v_iadd iX7_addWhole_38 ?_
      refine c_V1 (Mc := mX0_addThing) iX7_addWhole_39 lX7_232 kX0_addThing (qX0_addThing σ α _ (isBin_at k hk) _ _ _ rfl rfl rfl hms hkd hsz 0 _ (by omega)) (by decide) rfl (by first | rfl | exact (isBin_at k hk).1 | exact (isBin_at k hk).2) rfl rfl (Nat.le_of_ble_eq_true rfl) ?_
      try simp only [Int.toNat_natCast]
      have e : -999 ≤ v ∧ v ≤ 999 := by omega
      exact r_i iX7_addWhole_42 rfl (⟨cf_i (by rw [if_pos e]; exact hadd.1), by rw [if_pos e, if_pos e]; exact hadd.2.1, hadd.2.2⟩)
    · refine v_bipush iX7_addWhole_24 (by decide) ?_
      exact r_i iX7_addWhole_26 rfl (⟨cf_i (by rw [if_neg (by omega)]), by rw [if_neg (by omega), if_neg (by omega)]; exact hB, FrB.rf _ _ _⟩)

set_option maxHeartbeats 4000000 in
set_option maxRecDepth 100000 in
theorem qX7_addPair (σ α : St) (k : Nat) (hk : k < 3) {z kd : Int} {f : Nat → Int} (hB : BK σ α (89 + 2 * k) z kd f) (a b : Int) (ha : InR a) (hb : InR b) : CG 1 mX7_addPair [vR 0, vI (k : Int), vI a, vI b] σ α (fun r' s' a' => r' = some (vI (if (0 ≤ a ∧ a ≤ 99) ∧ 0 ≤ b ∧ b ≤ 99 then abR z kd 1 else -3)) ∧ BK s' a' (89 + 2 * k) (if (0 ≤ a ∧ a ≤ 99) ∧ 0 ≤ b ∧ b ≤ 99 then abZ z kd 1 else z) (kd) (if (0 ≤ a ∧ a ≤ 99) ∧ 0 ≤ b ∧ b ≤ 99 then abF z kd 1 f (a * 100 + b) else f) ∧ FrB (89 + 2 * k) σ α s' a') := by
  have b0 := (isBin_at k hk).1
  have hms := hB.ms
  have hsz := hB.sz
  have hkd := hB.kd
  have hf8 := hB.f8
  refine CG.of [some (vR 0), some (vI (k : Int)), some (vI a), some (vI b)] (by decide) (by simp [lvA]) rfl ?_
  refine v_iload_n iX7_addPair_0 rfl ?_
  refine c_S1 (Mc := mX7_isBin) iX7_addPair_1 lX7_226 kX7_isBin (qX7_isBin σ α _ (by omega)) (by decide) rfl rfl (Nat.le_of_ble_eq_true rfl) ?_
  try simp only [Int.toNat_natCast]
  refine v_bif_ne (tgt := 10) iX7_addPair_4 (by decide) (fun h4 => ?_) (fun h4 => (by exfalso; simp at h4; omega))
  refine v_iload_n iX7_addPair_10 rfl ?_
  refine c_S1 (Mc := mX7_isPairPart) iX7_addPair_11 lX7_235 kX7_isPairPart (qX7_isPairPart σ α _ ha) (by decide) rfl rfl (Nat.le_of_ble_eq_true rfl) ?_
  try simp only [Int.toNat_natCast]
  refine v_bif_eq (tgt := 24) iX7_addPair_14 (by decide) (fun h14 => ?_) (fun h14 => ?_)
  · try simp only [Int.toNat_natCast] at h14
    (try simp only [decide_eq_false_iff_not] at h14)
    (try simp only [decide_eq_false_iff_not, decide_eq_true_eq] at h14 h21)
    refine v_bipush iX7_addPair_24 (by decide) ?_
    exact r_i iX7_addPair_26 rfl (⟨cf_i (by rw [if_neg (by omega)]), by rw [if_neg (by omega), if_neg (by omega)]; exact hB, FrB.rf _ _ _⟩)
  · try simp only [Int.toNat_natCast] at h14
    refine v_iload_n iX7_addPair_17 rfl ?_
    refine c_S1 (Mc := mX7_isPairPart) iX7_addPair_18 lX7_235 kX7_isPairPart (qX7_isPairPart σ α _ hb) (by decide) rfl rfl (Nat.le_of_ble_eq_true rfl) ?_
    try simp only [Int.toNat_natCast]
    refine v_bif_ne (tgt := 27) iX7_addPair_21 (by decide) (fun h21 => ?_) (fun h21 => ?_)
    · try simp only [Int.toNat_natCast] at h21
      simp only [decide_eq_true_eq] at h14 h21
      have hadd := hB.add (kk := 1) (x := a * 100 + b) (by omega)
      refine v_aload_n iX7_addPair_27 rfl ?_
      refine v_getR iX7_addPair_28 fX7_68 (by first | rfl | exact (isBin_at k hk).1 | exact (isBin_at k hk).2) rfl ?_
      refine v_iload_n iX7_addPair_31 rfl ?_
      refine v_aaload iX7_addPair_32 rfl (by decide) (by simp only [List.length_cons, List.length_nil]; omega) (bins_at k hk) ?_
      refine v_iconst iX7_addPair_33 ?_
      refine v_iload_n iX7_addPair_34 rfl ?_
      refine v_bipush iX7_addPair_35 (by decide) ?_
      refine v_imul iX7_addPair_37 ?_
      refine v_iload_n iX7_addPair_38 rfl ?_
      refine v_iadd iX7_addPair_39 ?_
      refine c_V1 (Mc := mX0_addThing) iX7_addPair_40 lX7_232 kX0_addThing (qX0_addThing σ α _ (isBin_at k hk) _ _ _ rfl rfl rfl hms hkd hsz 1 _ (by omega)) (by decide) rfl (by first | rfl | exact (isBin_at k hk).1 | exact (isBin_at k hk).2) rfl rfl (Nat.le_of_ble_eq_true rfl) ?_
      try simp only [Int.toNat_natCast]
      have e : (0 ≤ a ∧ a ≤ 99) ∧ 0 ≤ b ∧ b ≤ 99 := ⟨h14, h21⟩
      exact r_i iX7_addPair_43 rfl (⟨cf_i (by rw [if_pos e]; exact hadd.1), by rw [if_pos e, if_pos e]; exact hadd.2.1, hadd.2.2⟩)
    · try simp only [Int.toNat_natCast] at h21
      (try simp only [decide_eq_false_iff_not] at h14)
      (try simp only [decide_eq_false_iff_not, decide_eq_true_eq] at h14 h21)
      refine v_bipush iX7_addPair_24 (by decide) ?_
      exact r_i iX7_addPair_26 rfl (⟨cf_i (by rw [if_neg (by omega)]), by rw [if_neg (by omega), if_neg (by omega)]; exact hB, FrB.rf _ _ _⟩)

set_option maxHeartbeats 4000000 in
set_option maxRecDepth 100000 in
theorem qX7_find (σ α : St) (k : Nat) (hk : k < 3) {z kd : Int} {f : Nat → Int} (hB : BK σ α (89 + 2 * k) z kd f) (w : Int) (hw : InR w) : CG 2 mX7_find [vR 0, vI (k : Int), vI w] σ α (fun r' s' a' => r' = some (vI (if 0 ≤ w ∧ w ≤ 2 then fdR z w f else -3)) ∧ BK s' a' (89 + 2 * k) (z) (kd) (f) ∧ FrB (89 + 2 * k) σ α s' a') := by
  have b0 := (isBin_at k hk).1
  have hms := hB.ms
  have hsz := hB.sz
  have hkd := hB.kd
  have hf8 := hB.f8
  refine CG.of [some (vR 0), some (vI (k : Int)), some (vI w), none] (by decide) (by simp [lvA]) rfl ?_
  refine v_iload_n iX7_find_0 rfl ?_
  refine c_S1 (Mc := mX7_isBin) iX7_find_1 lX7_226 kX7_isBin (qX7_isBin σ α _ (by omega)) (by decide) rfl rfl (Nat.le_of_ble_eq_true rfl) ?_
  try simp only [Int.toNat_natCast]
  refine v_bif_ne (tgt := 10) iX7_find_4 (by decide) (fun h4 => ?_) (fun h4 => (by exfalso; simp at h4; omega))
  refine v_iload_n iX7_find_10 rfl ?_
  refine v_if_lt (tgt := 19) iX7_find_11 (by decide) (by omega) (fun h11 => ?_) (fun h11 => ?_)
  · refine v_bipush iX7_find_19 (by decide) ?_
    exact r_i iX7_find_21 rfl (⟨cf_i (by rw [if_neg (by omega)]), hB, FrB.rf _ _ _⟩)
  · refine v_iload_n iX7_find_14 rfl ?_
    refine v_iconst iX7_find_15 ?_
    refine v_icmp_le (tgt := 22) iX7_find_16 (by decide) (by omega) (fun h16 => ?_) (fun h16 => ?_)
    · refine v_aload_n iX7_find_22 rfl ?_
      refine v_getR iX7_find_23 fX7_68 (by first | rfl | exact (isBin_at k hk).1 | exact (isBin_at k hk).2) rfl ?_
      refine v_iload_n iX7_find_26 rfl ?_
      refine v_aaload iX7_find_27 rfl (by decide) (by simp only [List.length_cons, List.length_nil]; omega) (bins_at k hk) ?_
      refine v_as3 iX7_find_28 ⟨rfl, rfl⟩ ?_
      refine v_aload_n iX7_find_29 rfl ?_
      refine v_getI iX7_find_30 fX7_238 (by first | rfl | exact (isBin_at k hk).1 | exact (isBin_at k hk).2) rfl rfl ?_
      refine v_if_eq (tgt := 39) iX7_find_33 (by decide) (by omega) (fun h33 => ?_) (fun h33 => ?_)
      · refine v_aload_n iX7_find_39 rfl ?_
        refine v_getI iX7_find_40 fX7_242 (by first | rfl | exact (isBin_at k hk).1 | exact (isBin_at k hk).2) rfl rfl ?_
        refine v_if_ne (tgt := 49) iX7_find_43 (by decide) (by omega) (fun h43 => ?_) (fun h43 => ?_)
        · have hz1 : σ (89 + 2 * k) 1 = 0 := h33
          obtain ⟨zn, hzn⟩ : ∃ zn : Nat, σ (89 + 2 * k) 3 = zn := ⟨(σ (89 + 2 * k) 3).toNat, by omega⟩
          have hzz : z = σ (89 + 2 * k) 3 := by rcases hB.1 with h | h <;> omega
          have hf9 : ∀ j, j < 8 → α (89 + 2 * k + 1) j = f j := fun j hj => (hB.2.2.2 j hj).1
          have hz0 : ¬ z < 0 := by omega
          have hz00 : ¬ z = 0 := by omega
          refine v_iload_n iX7_find_49 rfl ?_
          rcases (show w = 0 ∨ w = 1 ∨ w = 2 by omega) with rfl | rfl | rfl
          · refine v_lookup (tgt := 76) iX7_find_50 (by decide) (by decide) rfl (by decide) ?_
            refine v_aload_n iX7_find_76 rfl ?_
            refine c_V1 (Mc := mX0_greatest) iX7_find_77 lX7_243 kX0_greatest (qX0_greatest σ α _ (isBin_at k hk) zn hzn (by omega) hf8) (by decide) rfl (by first | rfl | exact (isBin_at k hk).1 | exact (isBin_at k hk).2) rfl rfl (Nat.le_of_ble_eq_true rfl) ?_
            try simp only [Int.toNat_natCast]
            exact r_i iX7_find_80 rfl (⟨cf_i (by rw [if_pos (by omega), fdR, if_neg hz0, if_neg hz00, if_pos rfl, show (z - 1).toNat = zn - 1 by omega]; exact maxU_c (fun j hj => hf9 j (by omega))), hB, FrB.rf _ _ _⟩)
          · refine v_lookup (tgt := 81) iX7_find_50 (by decide) (by decide) rfl (by decide) ?_
            refine v_aload_n iX7_find_81 rfl ?_
            refine c_V1 (Mc := mX0_smallest) iX7_find_82 lX7_246 kX0_smallest (qX0_smallest σ α _ (isBin_at k hk) zn hzn (by omega) hf8) (by decide) rfl (by first | rfl | exact (isBin_at k hk).1 | exact (isBin_at k hk).2) rfl rfl (Nat.le_of_ble_eq_true rfl) ?_
            try simp only [Int.toNat_natCast]
            exact r_i iX7_find_85 rfl (⟨cf_i (by rw [if_pos (by omega), fdR, if_neg hz0, if_neg hz00, if_neg (by omega), if_pos rfl, show (z - 1).toNat = zn - 1 by omega]; exact minU_c (fun j hj => hf9 j (by omega))), hB, FrB.rf _ _ _⟩)
          · refine v_lookup (tgt := 86) iX7_find_50 (by decide) (by decide) rfl (by decide) ?_
            refine v_aload_n iX7_find_86 rfl ?_
            refine v_getR iX7_find_87 fX7_249 (by first | rfl | exact (isBin_at k hk).1 | exact (isBin_at k hk).2) rfl ?_
            refine v_aload_n iX7_find_90 rfl ?_
            refine v_getI iX7_find_91 fX7_242 (by first | rfl | exact (isBin_at k hk).1 | exact (isBin_at k hk).2) rfl rfl ?_
            refine v_iconst iX7_find_94 ?_
            refine v_isub iX7_find_95 ?_
            refine v_iaload iX7_find_96 (by first | rfl | exact (isBin_at k hk).1 | exact (isBin_at k hk).2) (by omega) rfl ?_
            exact r_i iX7_find_97 rfl (⟨cf_i (by rw [if_pos (by omega), fdR, if_neg hz0, if_neg hz00, if_neg (by omega), if_neg (by omega), hf9 _ (by omega), hzz]), hB, FrB.rf _ _ _⟩)
        · refine v_bipush iX7_find_46 (by decide) ?_
          exact r_i iX7_find_48 rfl (⟨cf_i (by have : z = 0 := (by rcases hB.1 with h | h <;> omega); rw [if_pos (by omega), fdR, if_neg (by omega), if_pos this]), hB, FrB.rf _ _ _⟩)
      · refine v_bipush iX7_find_36 (by decide) ?_
        exact r_i iX7_find_38 rfl (⟨cf_i (by rw [if_pos (by omega), fdR, if_pos (by rcases hB.1 with h | h <;> omega)]), hB, FrB.rf _ _ _⟩)
    · refine v_bipush iX7_find_19 (by decide) ?_
      exact r_i iX7_find_21 rfl (⟨cf_i (by rw [if_neg (by omega)]), hB, FrB.rf _ _ _⟩)

set_option maxHeartbeats 4000000 in
set_option maxRecDepth 100000 in
theorem qX7_pop (σ α : St) (k : Nat) (hk : k < 3) {z kd : Int} {f : Nat → Int} (hB : BK σ α (89 + 2 * k) z kd f) : CG 1 mX7_pop [vR 0, vI (k : Int)] σ α (fun r' s' a' => r' = some (vI (if z < 0 then -11 else if z = 0 then -13 else f (z - 1).toNat)) ∧ BK s' a' (89 + 2 * k) (if z ≤ 0 then z else z - 1) (kd) (f) ∧ FrB (89 + 2 * k) σ α s' a') := by
  have b0 := (isBin_at k hk).1
  have hms := hB.ms
  have hsz := hB.sz
  have hkd := hB.kd
  have hf8 := hB.f8
  refine CG.of [some (vR 0), some (vI (k : Int)), none] (by decide) (by simp [lvA]) rfl ?_
  refine v_iload_n iX7_pop_0 rfl ?_
  refine c_S1 (Mc := mX7_isBin) iX7_pop_1 lX7_226 kX7_isBin (qX7_isBin σ α _ (by omega)) (by decide) rfl rfl (Nat.le_of_ble_eq_true rfl) ?_
  try simp only [Int.toNat_natCast]
  refine v_bif_ne (tgt := 10) iX7_pop_4 (by decide) (fun h4 => ?_) (fun h4 => (by exfalso; simp at h4; omega))
  refine v_aload_n iX7_pop_10 rfl ?_
  refine v_getR iX7_pop_11 fX7_68 (by first | rfl | exact (isBin_at k hk).1 | exact (isBin_at k hk).2) rfl ?_
  refine v_iload_n iX7_pop_14 rfl ?_
  refine v_aaload iX7_pop_15 rfl (by decide) (by simp only [List.length_cons, List.length_nil]; omega) (bins_at k hk) ?_
  refine v_as2 iX7_pop_16 ⟨rfl, rfl⟩ ?_
  refine v_aload_n iX7_pop_17 rfl ?_
  refine v_getI iX7_pop_18 fX7_238 (by first | rfl | exact (isBin_at k hk).1 | exact (isBin_at k hk).2) rfl rfl ?_
  refine v_if_eq (tgt := 27) iX7_pop_21 (by decide) (by omega) (fun h21 => ?_) (fun h21 => ?_)
  · refine v_aload_n iX7_pop_27 rfl ?_
    refine v_getI iX7_pop_28 fX7_242 (by first | rfl | exact (isBin_at k hk).1 | exact (isBin_at k hk).2) rfl rfl ?_
    refine v_if_ne (tgt := 37) iX7_pop_31 (by decide) (by omega) (fun h31 => ?_) (fun h31 => ?_)
    · have hzz : z = σ (89 + 2 * k) 3 := by rcases hB.1 with h | h <;> omega
      refine v_aload_n iX7_pop_37 rfl ?_
      refine v_dup iX7_pop_38 (by intro z h; cases h) ?_
      refine v_getI iX7_pop_39 fX7_242 (by first | rfl | exact (isBin_at k hk).1 | exact (isBin_at k hk).2) rfl rfl ?_
      refine v_iconst iX7_pop_42 ?_
      refine v_isub iX7_pop_43 ?_
      refine v_put iX7_pop_44 pX7_242 (by first | rfl | exact (isBin_at k hk).1 | exact (isBin_at k hk).2) rfl (by intro h; cases h) ?_
      refine v_aload_n iX7_pop_47 rfl ?_
      refine v_getR iX7_pop_48 fX7_249 (by first | rfl | exact (isBin_at k hk).1 | exact (isBin_at k hk).2) rfl ?_
      refine v_aload_n iX7_pop_51 rfl ?_
      refine v_getI iX7_pop_52 fX7_242 (by first | rfl | exact (isBin_at k hk).1 | exact (isBin_at k hk).2) rfl (by exact uS_eq _ _ _ _) ?_
      refine v_iaload iX7_pop_55 (by first | rfl | exact (isBin_at k hk).1 | exact (isBin_at k hk).2) (by omega) rfl ?_
      exact r_i iX7_pop_56 rfl (⟨cf_i (by rw [if_neg (by omega), if_neg (by omega), (hB.2.2.2 _ (by omega)).1, hzz]), by rw [if_neg (by omega)]; exact ⟨Or.inr ⟨by simp [uS, h21], by simp [uS, hzz], by omega, by omega⟩, by simp [uS, hB.2.1], hB.2.2.1, hB.2.2.2⟩, (FrB.rf _ _ _).s _⟩)
    · refine v_bipush iX7_pop_34 (by decide) ?_
      exact r_i iX7_pop_36 rfl (⟨cf_i (by have : z = 0 := (by rcases hB.1 with h | h <;> omega); rw [if_neg (by omega), if_pos this]), by rw [if_pos (by rcases hB.1 with h | h <;> omega)]; exact hB, FrB.rf _ _ _⟩)
  · refine v_bipush iX7_pop_24 (by decide) ?_
    exact r_i iX7_pop_26 rfl (⟨cf_i (by rw [if_pos (by rcases hB.1 with h | h <;> omega)]), by rw [if_pos (by rcases hB.1 with h | h <;> omega)]; exact hB, FrB.rf _ _ _⟩)

set_option maxHeartbeats 4000000 in
set_option maxRecDepth 100000 in
theorem qX7_sort (σ α : St) (k : Nat) (hk : k < 3) {z kd : Int} {f : Nat → Int} (hB : BK σ α (89 + 2 * k) z kd f) : CG 1 mX7_sort [vR 0, vI (k : Int)] σ α (fun r' s' a' => r' = some (vI (if z < 0 then -11 else z)) ∧ BK s' a' (89 + 2 * k) (z) (kd) (if z < 0 then f else srtU f (z - 1).toNat) ∧ FrB (89 + 2 * k) σ α s' a') := by
  have b0 := (isBin_at k hk).1
  have hms := hB.ms
  have hsz := hB.sz
  have hkd := hB.kd
  have hf8 := hB.f8
  refine CG.of [some (vR 0), some (vI (k : Int)), none] (by decide) (by simp [lvA]) rfl ?_
  refine v_iload_n iX7_sort_0 rfl ?_
  refine c_S1 (Mc := mX7_isBin) iX7_sort_1 lX7_226 kX7_isBin (qX7_isBin σ α _ (by omega)) (by decide) rfl rfl (Nat.le_of_ble_eq_true rfl) ?_
  try simp only [Int.toNat_natCast]
  refine v_bif_ne (tgt := 10) iX7_sort_4 (by decide) (fun h4 => ?_) (fun h4 => (by exfalso; simp at h4; omega))
  refine v_aload_n iX7_sort_10 rfl ?_
  refine v_getR iX7_sort_11 fX7_68 (by first | rfl | exact (isBin_at k hk).1 | exact (isBin_at k hk).2) rfl ?_
  refine v_iload_n iX7_sort_14 rfl ?_
  refine v_aaload iX7_sort_15 rfl (by decide) (by simp only [List.length_cons, List.length_nil]; omega) (bins_at k hk) ?_
  refine v_as2 iX7_sort_16 ⟨rfl, rfl⟩ ?_
  refine v_aload_n iX7_sort_17 rfl ?_
  refine v_getI iX7_sort_18 fX7_238 (by first | rfl | exact (isBin_at k hk).1 | exact (isBin_at k hk).2) rfl rfl ?_
  refine v_if_eq (tgt := 27) iX7_sort_21 (by decide) (by omega) (fun h21 => ?_) (fun h21 => ?_)
  · obtain ⟨zn, hzn⟩ : ∃ zn : Nat, σ (89 + 2 * k) 3 = zn := ⟨(σ (89 + 2 * k) 3).toNat, by omega⟩
    have hzz : z = σ (89 + 2 * k) 3 := by rcases hB.1 with h | h <;> omega
    have hz8 := hB.sz
    refine v_aload_n iX7_sort_27 rfl ?_
    refine c_V0 (Mc := mX0_arrange) iX7_sort_28 lX7_252 kX0_arrange (qX0_arrange σ α _ (isBin_at k hk) zn hzn (by omega) hf8) (by decide) rfl (by first | rfl | exact (isBin_at k hk).1 | exact (isBin_at k hk).2) rfl rfl (Nat.le_of_ble_eq_true rfl) ?_
    try simp only [Int.toNat_natCast]
    refine v_aload_n iX7_sort_31 rfl ?_
    refine v_getI iX7_sort_32 fX7_242 (by first | rfl | exact (isBin_at k hk).1 | exact (isBin_at k hk).2) rfl rfl ?_
    exact r_i iX7_sort_35 rfl (⟨cf_i (by rw [if_neg (by omega), hzz]), by rw [if_neg (by omega)]; exact ⟨hB.1, hB.2.1, hB.2.2.1, fun j hj => by rw [uA_eq, show (z - 1).toNat = zn - 1 by omega, srtU_c (fun i hi => (hB.2.2.2 i hi).1) (zn - 1) (by omega) j hj]; exact ⟨rfl, srtU_r f (fun i hi => (hB.2.2.2 i hi).2) (zn - 1) (by omega) j hj⟩⟩, (FrB.rf _ _ _).a _⟩)
  · refine v_bipush iX7_sort_24 (by decide) ?_
    exact r_i iX7_sort_26 rfl (⟨cf_i (by rw [if_pos (by rcases hB.1 with h | h <;> omega)]), by rw [if_pos (by rcases hB.1 with h | h <;> omega)]; exact hB, FrB.rf _ _ _⟩)

set_option maxHeartbeats 4000000 in
set_option maxRecDepth 100000 in
theorem qX7_sum (σ α : St) (k : Nat) (hk : k < 3) {z kd : Int} {f : Nat → Int} (hB : BK σ α (89 + 2 * k) z kd f) : CG 1 mX7_sum [vR 0, vI (k : Int)] σ α (fun r' s' a' => r' = some (vI (if z < 0 then -11 else sumU f z.toNat)) ∧ BK s' a' (89 + 2 * k) (z) (kd) (f) ∧ FrB (89 + 2 * k) σ α s' a') := by
  have b0 := (isBin_at k hk).1
  have hms := hB.ms
  have hsz := hB.sz
  have hkd := hB.kd
  have hf8 := hB.f8
  refine CG.of [some (vR 0), some (vI (k : Int))] (by decide) (by simp [lvA]) rfl ?_
  refine v_iload_n iX7_sum_0 rfl ?_
  refine c_S1 (Mc := mX7_isBin) iX7_sum_1 lX7_226 kX7_isBin (qX7_isBin σ α _ (by omega)) (by decide) rfl rfl (Nat.le_of_ble_eq_true rfl) ?_
  try simp only [Int.toNat_natCast]
  refine v_bif_ne (tgt := 10) iX7_sum_4 (by decide) (fun h4 => ?_) (fun h4 => (by exfalso; simp at h4; omega))
  refine v_aload_n iX7_sum_10 rfl ?_
  refine v_getR iX7_sum_11 fX7_68 (by first | rfl | exact (isBin_at k hk).1 | exact (isBin_at k hk).2) rfl ?_
  refine v_iload_n iX7_sum_14 rfl ?_
  refine v_aaload iX7_sum_15 rfl (by decide) (by simp only [List.length_cons, List.length_nil]; omega) (bins_at k hk) ?_
  refine v_getI iX7_sum_16 fX7_238 (by first | rfl | exact (isBin_at k hk).1 | exact (isBin_at k hk).2) rfl rfl ?_
  refine v_if_eq (tgt := 27) iX7_sum_19 (by decide) (by omega) (fun h19 => ?_) (fun h19 => ?_)
  · obtain ⟨zn, hzn⟩ : ∃ zn : Nat, σ (89 + 2 * k) 3 = zn := ⟨(σ (89 + 2 * k) 3).toNat, by omega⟩
    have hzz : z = σ (89 + 2 * k) 3 := by rcases hB.1 with h | h <;> omega
    refine v_aload_n iX7_sum_27 rfl ?_
    refine v_getR iX7_sum_28 fX7_68 (by first | rfl | exact (isBin_at k hk).1 | exact (isBin_at k hk).2) rfl ?_
    refine v_iload_n iX7_sum_31 rfl ?_
    refine v_aaload iX7_sum_32 rfl (by decide) (by simp only [List.length_cons, List.length_nil]; omega) (bins_at k hk) ?_
    refine c_V1 (Mc := mX0_together) iX7_sum_33 lX7_259 kX0_together (qX0_together σ α _ (isBin_at k hk) zn hzn (by omega)) (by decide) rfl (by first | rfl | exact (isBin_at k hk).1 | exact (isBin_at k hk).2) rfl rfl (Nat.le_of_ble_eq_true rfl) ?_
    try simp only [Int.toNat_natCast]
    exact r_i iX7_sum_36 rfl (⟨cf_i (by first | (rw [if_neg (by omega), show z.toNat = zn by omega]; exact sumU_c (fun j hj => (hB.2.2.2 j (by omega)).1)) | rw [if_pos (by rcases hB.1 with h | h <;> omega)]), hB, FrB.rf _ _ _⟩)
  · refine v_bipush iX7_sum_22 (by decide) ?_
    refine v_goto (tgt := 36) iX7_sum_24 (by decide) ?_
    exact r_i iX7_sum_36 rfl (⟨cf_i (by first | (rw [if_neg (by omega), show z.toNat = zn by omega]; exact sumU_c (fun j hj => (hB.2.2.2 j (by omega)).1)) | rw [if_pos (by rcases hB.1 with h | h <;> omega)]), hB, FrB.rf _ _ _⟩)

set_option maxHeartbeats 4000000 in
set_option maxRecDepth 100000 in
theorem qX7_drop (σ α : St) (k : Nat) (hk : k < 3) {z kd : Int} {f : Nat → Int} (hB : BK σ α (89 + 2 * k) z kd f) : CG 1 mX7_drop [vR 0, vI (k : Int)] σ α (fun r' s' a' => r' = some (vI (if z < 0 then -11 else z)) ∧ BK s' a' (89 + 2 * k) (-1) (kd) (f) ∧ FrB (89 + 2 * k) σ α s' a') := by
  have b0 := (isBin_at k hk).1
  have hms := hB.ms
  have hsz := hB.sz
  have hkd := hB.kd
  have hf8 := hB.f8
  refine CG.of [some (vR 0), some (vI (k : Int)), none] (by decide) (by simp [lvA]) rfl ?_
  refine v_iload_n iX7_drop_0 rfl ?_
  refine c_S1 (Mc := mX7_isBin) iX7_drop_1 lX7_226 kX7_isBin (qX7_isBin σ α _ (by omega)) (by decide) rfl rfl (Nat.le_of_ble_eq_true rfl) ?_
  try simp only [Int.toNat_natCast]
  refine v_bif_ne (tgt := 10) iX7_drop_4 (by decide) (fun h4 => ?_) (fun h4 => (by exfalso; simp at h4; omega))
  refine v_aload_n iX7_drop_10 rfl ?_
  refine v_getR iX7_drop_11 fX7_68 (by first | rfl | exact (isBin_at k hk).1 | exact (isBin_at k hk).2) rfl ?_
  refine v_iload_n iX7_drop_14 rfl ?_
  refine v_aaload iX7_drop_15 rfl (by decide) (by simp only [List.length_cons, List.length_nil]; omega) (bins_at k hk) ?_
  refine v_getI iX7_drop_16 fX7_238 (by first | rfl | exact (isBin_at k hk).1 | exact (isBin_at k hk).2) rfl rfl ?_
  refine v_if_eq (tgt := 25) iX7_drop_19 (by decide) (by omega) (fun h19 => ?_) (fun h19 => ?_)
  · refine v_aload_n iX7_drop_25 rfl ?_
    refine v_getR iX7_drop_26 fX7_68 (by first | rfl | exact (isBin_at k hk).1 | exact (isBin_at k hk).2) rfl ?_
    refine v_iload_n iX7_drop_29 rfl ?_
    refine v_aaload iX7_drop_30 rfl (by decide) (by simp only [List.length_cons, List.length_nil]; omega) (bins_at k hk) ?_
    refine v_getI iX7_drop_31 fX7_242 (by first | rfl | exact (isBin_at k hk).1 | exact (isBin_at k hk).2) rfl rfl ?_
    refine v_is2 iX7_drop_34 ⟨rfl, rfl⟩ ?_
    refine v_aload_n iX7_drop_35 rfl ?_
    refine v_getR iX7_drop_36 fX7_68 (by first | rfl | exact (isBin_at k hk).1 | exact (isBin_at k hk).2) rfl ?_
    refine v_iload_n iX7_drop_39 rfl ?_
    refine v_aaload iX7_drop_40 rfl (by decide) (by simp only [List.length_cons, List.length_nil]; omega) (bins_at k hk) ?_
    refine c_V0 (Mc := mX0_vanish) iX7_drop_41 lX7_262 kX0_vanish (qX0_vanish σ α _ (isBin_at k hk)) (by decide) rfl (by first | rfl | exact (isBin_at k hk).1 | exact (isBin_at k hk).2) rfl rfl (Nat.le_of_ble_eq_true rfl) ?_
    try simp only [Int.toNat_natCast]
    refine v_iload_n iX7_drop_44 rfl ?_
    exact r_i iX7_drop_45 rfl (⟨cf_i (by have hzz : z = σ (89 + 2 * k) 3 := (by rcases hB.1 with h | h <;> omega); rw [if_neg (by omega), hzz]), ⟨Or.inl ⟨by simp [uS], rfl, by simp [uS]⟩, by simp [uS, hB.2.1], hB.2.2.1, hB.2.2.2⟩, ((FrB.rf _ _ _).s _).s _⟩)
  · refine v_bipush iX7_drop_22 (by decide) ?_
    exact r_i iX7_drop_24 rfl (⟨cf_i (by rw [if_pos (by rcases hB.1 with h | h <;> omega)]), by have e : z = -1 := (by rcases hB.1 with h | h <;> omega); rw [← e]; exact hB, FrB.rf _ _ _⟩)
