set_option maxHeartbeats 4000000 in
set_option maxRecDepth 100000 in
theorem qX7_pour (σ α : St) (s t : Nat) (hs : s < 3) (ht : t < 3) (hst : s ≠ t) {z1 k1 z2 k2 : Int} {f1 f2 : Nat → Int} (hB1 : BK σ α (89 + 2 * s) z1 k1 f1) (hB2 : BK σ α (89 + 2 * t) z2 k2 f2) : CG 3 mX7_pour [vR 0, vI (s : Int), vI (t : Int)] σ α (fun r' s' a' => r' = some (vI (plR z1 z2 k1 k2)) ∧ BK s' a' (89 + 2 * t) (if plB z1 z2 k1 k2 then z1 + z2 else z2) k2 (if plB z1 z2 k1 k2 then apF f2 f1 z2.toNat z1.toNat else f2) ∧ FrB (89 + 2 * t) σ α s' a') := by
  have b0 := (isBin_at t ht).1
  have hA := BK.all hB1 hB2
  refine CG.of [some (vR 0), some (vI (s : Int)), some (vI (t : Int))] (by decide) (by simp [lvA]) rfl ?_
  refine v_iload_n iX7_pour_0 rfl ?_
  refine c_S1 (Mc := mX7_isBin) iX7_pour_1 lX7_226 kX7_isBin (qX7_isBin _ _ s (by omega)) (by decide) rfl rfl (Nat.le_of_ble_eq_true rfl) ?_
  try simp only [Int.toNat_natCast]
  refine v_bif_eq (tgt := 19) iX7_pour_4 (by decide) (fun h4 => (by exfalso; simp at h4; omega)) (fun h4 => ?_)
  refine v_iload_n iX7_pour_7 rfl ?_
  refine c_S1 (Mc := mX7_isBin) iX7_pour_8 lX7_226 kX7_isBin (qX7_isBin _ _ t (by omega)) (by decide) rfl rfl (Nat.le_of_ble_eq_true rfl) ?_
  try simp only [Int.toNat_natCast]
  refine v_bif_eq (tgt := 19) iX7_pour_11 (by decide) (fun h11 => (by exfalso; simp at h11; omega)) (fun h11 => ?_)
  refine v_iload_n iX7_pour_14 rfl ?_
  refine v_iload_n iX7_pour_15 rfl ?_
  refine v_icmp_ne (tgt := 22) iX7_pour_16 (by decide) (by omega) (fun h16 => ?_) (fun h16 => (by exfalso; omega))
  refine v_aload_n iX7_pour_22 rfl ?_
  refine v_getR iX7_pour_23 fX7_68 (by first | rfl | assumption) rfl ?_
  refine v_iload_n iX7_pour_26 rfl ?_
  refine v_aaload iX7_pour_27 rfl (by decide) (by simp only [List.length_cons, List.length_nil]; omega) (bins_at t ht) ?_
  refine v_aload_n iX7_pour_28 rfl ?_
  refine v_getR iX7_pour_29 fX7_68 (by first | rfl | assumption) rfl ?_
  refine v_iload_n iX7_pour_32 rfl ?_
  refine v_aaload iX7_pour_33 rfl (by decide) (by simp only [List.length_cons, List.length_nil]; omega) (bins_at s hs) ?_
  refine c_V1 (Mc := mX0_addAll) iX7_pour_34 lX7_255 kX0_addAll (qX0_addAll σ α (89 + 2 * t) (89 + 2 * s) (isBin_at t ht) (isBin_at s hs) (by omega) _ _ _ rfl rfl rfl hB2.ms hB2.kd hB2.sz _ _ _ rfl rfl rfl hB1.ms hB1.kd hB1.sz) (by decide) rfl (by first | rfl | assumption) rfl rfl (Nat.le_of_ble_eq_true rfl) ?_
  try simp only [Int.toNat_natCast]
  exact r_i iX7_pour_37 rfl (⟨cf_i hA.1, hA.2.1, hA.2.2⟩)

set_option maxHeartbeats 4000000 in
set_option maxRecDepth 100000 in
theorem qX8_pour (σ α : St) (s t : Nat) (hs : s < 3) (ht : t < 3) (hst : s ≠ t) {z1 k1 z2 k2 : Int} {f1 f2 : Nat → Int} (hB1 : RB α s z1 k1 f1) (hB2 : RB α t z2 k2 f2) : CG 2 mX8_pour [vR 95, vI (s : Int), vI (t : Int)] σ α (fun r' s' a' => r' = some (vI (plR z1 z2 k1 k2)) ∧ s' = σ ∧ RB a' t (if plB z1 z2 k1 k2 then z1 + z2 else z2) k2 (if plB z1 z2 k1 k2 then apF f2 f1 z2.toNat z1.toNat else f2) ∧ FrR t α a') := by
  have hz1 := hB1.2.1
  have hz2 := hB2.2.1
  have hk1 := hB1.2.2.2.1
  have hk2 := hB2.2.2.2.1
  refine CG.of [some (vR 95), some (vI (s : Int)), some (vI (t : Int)), none] (by decide) (by simp [lvA]) rfl ?_
  refine v_iload_n iX8_pour_0 rfl ?_
  refine c_S1 (Mc := mX8_isBin) iX8_pour_1 lX8_230 kX8_isBin (qX8_isBin _ _ s (by omega)) (by decide) rfl rfl (Nat.le_of_ble_eq_true rfl) ?_
  try simp only [Int.toNat_natCast]
  refine v_bif_eq (tgt := 19) iX8_pour_4 (by decide) (fun h4 => (by exfalso; simp at h4; omega)) (fun h4 => ?_)
  refine v_iload_n iX8_pour_7 rfl ?_
  refine c_S1 (Mc := mX8_isBin) iX8_pour_8 lX8_230 kX8_isBin (qX8_isBin _ _ t (by omega)) (by decide) rfl rfl (Nat.le_of_ble_eq_true rfl) ?_
  try simp only [Int.toNat_natCast]
  refine v_bif_eq (tgt := 19) iX8_pour_11 (by decide) (fun h11 => (by exfalso; simp at h11; omega)) (fun h11 => ?_)
  refine v_iload_n iX8_pour_14 rfl ?_
  refine v_iload_n iX8_pour_15 rfl ?_
  refine v_icmp_ne (tgt := 22) iX8_pour_16 (by decide) (by omega) (fun h16 => ?_) (fun h16 => (by exfalso; omega))
  refine v_aload_n iX8_pour_22 rfl ?_
  refine v_getR iX8_pour_23 fX8_39 rfl rfl ?_
  refine v_iload_n iX8_pour_26 rfl ?_
  refine v_iaload iX8_pour_27 rfl (by omega) (by exact (show _ = z1 by rw [Int.toNat_natCast]; exact hB1.1)) ?_
  refine v_if_lt (tgt := 40) iX8_pour_28 (by decide) (by omega) (fun h28 => ?_) (fun h28 => ?_)
  · have hBf : ¬ plB z1 z2 k1 k2 = true := by simp only [plB, decide_eq_true_eq]; omega
    refine v_bipush iX8_pour_40 (by decide) ?_
    exact r_i iX8_pour_42 rfl (⟨cf_i (by rw [plR, if_pos (by omega)]), rfl, by rw [if_neg hBf, if_neg hBf]; exact hB2, FrR.rf t α⟩)
  · refine v_aload_n iX8_pour_31 rfl ?_
    refine v_getR iX8_pour_32 fX8_39 rfl rfl ?_
    refine v_iload_n iX8_pour_35 rfl ?_
    refine v_iaload iX8_pour_36 rfl (by omega) (by exact (show _ = z2 by rw [Int.toNat_natCast]; exact hB2.1)) ?_
    refine v_if_ge (tgt := 43) iX8_pour_37 (by decide) (by omega) (fun h37 => ?_) (fun h37 => ?_)
    · refine v_aload_n iX8_pour_43 rfl ?_
      refine v_getR iX8_pour_44 fX8_42 rfl rfl ?_
      refine v_iload_n iX8_pour_47 rfl ?_
      refine v_iaload iX8_pour_48 rfl (by omega) (by exact (show _ = k1 by rw [Int.toNat_natCast]; exact hB1.2.2.1)) ?_
      refine v_aload_n iX8_pour_49 rfl ?_
      refine v_getR iX8_pour_50 fX8_42 rfl rfl ?_
      refine v_iload_n iX8_pour_53 rfl ?_
      refine v_iaload iX8_pour_54 rfl (by omega) (by exact (show _ = k2 by rw [Int.toNat_natCast]; exact hB2.2.2.1)) ?_
      refine v_icmp_eq (tgt := 61) iX8_pour_55 (by decide) (by omega) (fun h55 => ?_) (fun h55 => ?_)
      · refine v_aload_n iX8_pour_61 rfl ?_
        refine v_getR iX8_pour_62 fX8_39 rfl rfl ?_
        refine v_iload_n iX8_pour_65 rfl ?_
        refine v_iaload iX8_pour_66 rfl (by omega) (by exact (show _ = z1 by rw [Int.toNat_natCast]; exact hB1.1)) ?_
        refine v_aload_n iX8_pour_67 rfl ?_
        refine v_getR iX8_pour_68 fX8_39 rfl rfl ?_
        refine v_iload_n iX8_pour_71 rfl ?_
        refine v_iaload iX8_pour_72 rfl (by omega) (by exact (show _ = z2 by rw [Int.toNat_natCast]; exact hB2.1)) ?_
        refine v_iadd iX8_pour_73 ?_
        refine v_bipush iX8_pour_74 (by decide) ?_
        refine v_icmp_le (tgt := 82) iX8_pour_76 (by decide) (by omega) (fun h76 => ?_) (fun h76 => ?_)
        · refine v_iconst iX8_pour_82 ?_
          refine v_is3 iX8_pour_83 ⟨rfl, rfl⟩ ?_
          obtain ⟨w1, e1⟩ : ∃ w : Nat, z1 = w := ⟨_, (Int.toNat_of_nonneg (by omega)).symm⟩
          obtain ⟨w2, e2⟩ : ∃ w : Nat, z2 = w := ⟨_, (Int.toNat_of_nonneg (by omega)).symm⟩
          subst e1 e2
          have hBt : plB (w1 : Int) (w2 : Int) k1 k2 = true := by simp only [plB, decide_eq_true_eq]; omega
          have key := ind_up (P := fun k => ∀ α1, RB α1 t ((w2 : Int) + k) k2 (apF f2 f1 w2 k) → FrR t α α1 → VV 2 mX8_pour [vR 95, vI (s : Int), vI (t : Int)] (fun r' s' a' => r' = some (vI (plR (w1 : Int) (w2 : Int) k1 k2)) ∧ s' = σ ∧ RB a' t (if plB (w1 : Int) (w2 : Int) k1 k2 then (w1 : Int) + (w2 : Int) else (w2 : Int)) k2 (if plB (w1 : Int) (w2 : Int) k1 k2 then apF f2 f1 (w2 : Int).toNat (w1 : Int).toNat else f2) ∧ FrR t α a') σ α1 84 [some (vR 95), some (vI (s : Int)), some (vI (t : Int)), some (vI (k : Int))] []) w1 ?_ 0 (by omega)
          · exact key α (by rw [apF_0]; simpa using hB2) (FrR.rf t α)
          intro k hk ih α1 hA hF
          refine v_iload_n iX8_pour_84 rfl ?_
          refine v_aload_n iX8_pour_85 rfl ?_
          refine v_getR iX8_pour_86 fX8_39 rfl rfl ?_
          refine v_iload_n iX8_pour_89 rfl ?_
          refine v_iaload iX8_pour_90 rfl (by omega) (by exact (show _ = (w1 : Int) by rw [Int.toNat_natCast]; exact (hF.rb hs hst hB1).1)) ?_
          refine v_icmp_ge (tgt := 137) iX8_pour_91 (by decide) (by omega) (fun h91 => ?_) (fun h91 => ?_)
          · have hkn : w1 = k := by omega
            subst hkn
            refine v_aload_n iX8_pour_137 rfl ?_
            refine v_getR iX8_pour_138 fX8_39 rfl rfl ?_
            refine v_iload_n iX8_pour_141 rfl ?_
            refine v_iaload iX8_pour_142 rfl (by omega) (by exact (show _ = (w2 : Int) + w1 by rw [Int.toNat_natCast]; exact hA.1)) ?_
            exact r_i iX8_pour_143 rfl (⟨cf_i (by rw [plR, if_neg (by omega), if_pos h55, if_pos (by omega)]; omega), rfl, by rw [if_pos hBt, if_pos hBt, Int.toNat_natCast, Int.toNat_natCast, show (w1 : Int) + (w2 : Int) = (w2 : Int) + w1 by omega]; exact hA, hF⟩)
          · refine v_aload_n iX8_pour_94 rfl ?_
            refine v_getR iX8_pour_95 fX8_45 rfl rfl ?_
            refine v_bipush iX8_pour_98 (by decide) ?_
            refine v_iload_n iX8_pour_100 rfl ?_
            refine v_imul iX8_pour_101 ?_
            refine v_aload_n iX8_pour_102 rfl ?_
            refine v_getR iX8_pour_103 fX8_39 rfl rfl ?_
            refine v_iload_n iX8_pour_106 rfl ?_
            refine v_iaload iX8_pour_107 rfl (by omega) (by exact (show _ = (w2 : Int) + k by rw [Int.toNat_natCast]; exact hA.1)) ?_
            refine v_iadd iX8_pour_108 ?_
            refine v_aload_n iX8_pour_109 rfl ?_
            refine v_getR iX8_pour_110 fX8_45 rfl rfl ?_
            refine v_bipush iX8_pour_113 (by decide) ?_
            refine v_iload_n iX8_pour_115 rfl ?_
            refine v_imul iX8_pour_116 ?_
            refine v_iload_n iX8_pour_117 rfl ?_
            refine v_iadd iX8_pour_118 ?_
            refine v_iaload iX8_pour_119 rfl (by omega) (by exact (show _ = f1 k by rw [show ((8 : Int) * (s : Int) + (k : Int)).toNat = 8 * s + k by omega]; exact ((hF.rb hs hst hB1).2.2.2.2 k (by omega)).1)) ?_
            refine v_iastore iX8_pour_120 rfl (by omega) ?_
            refine v_aload_n iX8_pour_121 rfl ?_
            refine v_getR iX8_pour_122 fX8_39 rfl rfl ?_
            refine v_iload_n iX8_pour_125 rfl ?_
            refine v_dup2 iX8_pour_126 ⟨(by intro z h; cases h), (by intro z h; cases h)⟩ ?_
            refine v_iaload iX8_pour_127 rfl (by omega) (by exact (show _ = (w2 : Int) + k by rw [Int.toNat_natCast, uA_ne _ _ (by decide)]; exact hA.1)) ?_
            refine v_iconst iX8_pour_128 ?_
            refine v_iadd iX8_pour_129 ?_
            refine v_iastore iX8_pour_130 rfl (by omega) ?_
            refine v_in3 iX8_pour_131 ⟨rfl, rfl⟩ ?_
            refine v_goto (tgt := 84) iX8_pour_134 (by decide) ?_
            have hv := (hB1.2.2.2.2 k (by omega)).2
            have q := (hA.th (j := w2 + k) (by omega) hv).sz (v := (w2 : Int) + (k + 1 : Nat)) (by omega)
            rw [apF_s] at q
            have qf := (hF.th (i := 8 * t + (w2 + k)) (by omega) (f1 k)).sz ((w2 : Int) + (k + 1 : Nat))
            exact (ih (by omega) _ q qf).as rfl (by
              rw [show ((8 : Int) * (t : Int) + ((w2 : Int) + (k : Int))).toNat = 8 * t + (w2 + k) by omega, Int.toNat_natCast, show (w2 : Int) + (k : Int) + 1 = (w2 : Int) + ((k + 1 : Nat) : Int) by omega]) rfl rfl
        · have hBf : ¬ plB z1 z2 k1 k2 = true := by simp only [plB, decide_eq_true_eq]; omega
          refine v_bipush iX8_pour_79 (by decide) ?_
          exact r_i iX8_pour_81 rfl (⟨cf_i (by rw [plR, if_neg (by omega), if_pos h55, if_neg (by omega)]), rfl, by rw [if_neg hBf, if_neg hBf]; exact hB2, FrR.rf t α⟩)
      · have hBf : ¬ plB z1 z2 k1 k2 = true := by simp only [plB, decide_eq_true_eq]; omega
        refine v_bipush iX8_pour_58 (by decide) ?_
        exact r_i iX8_pour_60 rfl (⟨cf_i (by rw [plR, if_neg (by omega), if_neg h55]), rfl, by rw [if_neg hBf, if_neg hBf]; exact hB2, FrR.rf t α⟩)
    · have hBf : ¬ plB z1 z2 k1 k2 = true := by simp only [plB, decide_eq_true_eq]; omega
      refine v_bipush iX8_pour_40 (by decide) ?_
      exact r_i iX8_pour_42 rfl (⟨cf_i (by rw [plR, if_pos (by omega)]), rfl, by rw [if_neg hBf, if_neg hBf]; exact hB2, FrR.rf t α⟩)
