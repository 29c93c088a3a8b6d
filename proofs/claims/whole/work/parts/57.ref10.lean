set_option maxHeartbeats 4000000 in
set_option maxRecDepth 100000 in
theorem qX8_best (σ α : St) {n : Nat} {V B N : Nat → Int} (hR : RV σ α n V B N) (hW : WF n V B N) {K C : Nat → Int} (hKC : ∀ i, i < n → α 98 i = K i ∧ α 96 (19 + i) = C i ∧ (1 ≤ K i ∧ K i ≤ 99) ∧ (0 ≤ C i ∧ C i ≤ 9) ∧ B i = K i + 10 * C i) (c f : Int) (hc : InR c) (hf : InR f) : CF 5 mX8_best [vR 95, vI c, vI f] σ α (some (vI (if (1 ≤ c ∧ c ≤ 9) ∧ 0 ≤ f ∧ f ≤ 1 then (if f = 0 then (bstR (tcU V B N K C n c) n).1 else (bstR (tcU V B N K C n c) n).2) else -3))) (σ) (α) := by
  have h10 := hW.1
  refine CG.of [some (vR 95), some (vI c), some (vI f), none, none, none, none, none] (by decide) (by simp [lvA]) rfl ?_
  refine v_iload_n iX8_best_0 rfl ?_
  refine v_i2l iX8_best_1 (by omega) ?_
  refine v_lconst (z := 1) iX8_best_2 rfl ?_
  refine v_ldc2 iX8_best_3 gX8_223 ?_
  refine c_S1 (Mc := mX8_in) iX8_best_6 lX8_62 kX8_in (qX8_in _ _ _ _ _ hc (by decide) (by decide)) (by decide) rfl rfl (Nat.le_of_ble_eq_true rfl) ?_
  try simp only [Int.toNat_natCast]
  refine v_bif_eq (tgt := 22) iX8_best_9 (by decide) (fun h9 => ?_) (fun h9 => ?_)
  · try simp only [Int.toNat_natCast] at h9
    (try simp only [decide_eq_false_iff_not] at h9)
    (try simp only [decide_eq_false_iff_not] at h19)
    refine v_bipush iX8_best_22 (by decide) ?_
    exact r_i iX8_best_24 rfl (⟨cf_i (by rw [if_neg (by omega)]), rfl, rfl⟩)
  · try simp only [Int.toNat_natCast] at h9
    simp only [decide_eq_true_eq] at h9
    refine v_iload_n iX8_best_12 rfl ?_
    refine v_i2l iX8_best_13 (by omega) ?_
    refine v_lconst (z := 0) iX8_best_14 rfl ?_
    refine v_lconst (z := 1) iX8_best_15 rfl ?_
    refine c_S1 (Mc := mX8_in) iX8_best_16 lX8_62 kX8_in (qX8_in _ _ _ _ _ hf (by decide) (by decide)) (by decide) rfl rfl (Nat.le_of_ble_eq_true rfl) ?_
    try simp only [Int.toNat_natCast]
    refine v_bif_ne (tgt := 25) iX8_best_19 (by decide) (fun h19 => ?_) (fun h19 => ?_)
    · try simp only [Int.toNat_natCast] at h19
      simp only [decide_eq_true_eq] at h19
      refine v_iconst iX8_best_25 ?_
      refine v_is3 iX8_best_26 ⟨rfl, rfl⟩ ?_
      refine v_iconst iX8_best_27 ?_
      refine v_is4 iX8_best_28 ⟨rfl, rfl⟩ ?_
      refine v_iconst iX8_best_30 ?_
      refine v_is5 iX8_best_31 ⟨rfl, rfl⟩ ?_
      have key := ind_up (P := fun k => VV 5 mX8_best [vR 95, vI c, vI f] (fun r' s' a' => r' = some (vI (if (1 ≤ c ∧ c ≤ 9) ∧ 0 ≤ f ∧ f ≤ 1 then (if f = 0 then (bstR (tcU V B N K C n c) n).1 else (bstR (tcU V B N K C n c) n).2) else -3)) ∧ s' = σ ∧ a' = α) σ α 33 [some (vR 95), some (vI c), some (vI f), some (vI (bstR (tcU V B N K C n c) k).1), some (vI (bstR (tcU V B N K C n c) k).2), some (vI (k : Int)), none, none] []) n ?_ 0 (by omega)
      · exact key
      intro k hk ih
      refine v_iload iX8_best_33 rfl ?_
      refine v_aload_n iX8_best_35 rfl ?_
      refine v_getI iX8_best_36 fX8_57 rfl rfl (by exact hR.1) ?_
      refine v_icmp_ge (tgt := 143) iX8_best_39 (by decide) (by omega) (fun h39 => ?_) (fun h39 => ?_)
      · have hkn : n = k := by omega
        subst hkn
        refine v_iload_n iX8_best_143 rfl ?_
        refine v_if_ne (tgt := 151) iX8_best_144 (by decide) (by omega) (fun h144 => ?_) (fun h144 => ?_)
        · refine v_iload iX8_best_151 rfl ?_
          exact r_i iX8_best_153 rfl (by first | exact ⟨cf_i (by rw [if_pos ⟨h9, h19⟩, if_pos h144]), rfl, rfl⟩ | exact ⟨cf_i (by rw [if_pos ⟨h9, h19⟩, if_neg h144]), rfl, rfl⟩)
        · refine v_iload_n iX8_best_147 rfl ?_
          refine v_goto (tgt := 153) iX8_best_148 (by decide) ?_
          exact r_i iX8_best_153 rfl (by first | exact ⟨cf_i (by rw [if_pos ⟨h9, h19⟩, if_pos h144]), rfl, rfl⟩ | exact ⟨cf_i (by rw [if_pos ⟨h9, h19⟩, if_neg h144]), rfl, rfl⟩)
      · have hkn : k < n := by omega
        have hck := hKC k hkn
        have htk := tcU_r V B N K C n c k
        have hbr := bstR_r (fun k => tcU_r V B N K C n c k) k
        have mt := pow10 h10 (msk_lt (topR V (chB B K C k c) N n) n)
        have et : onesU (msk (topR V (chB B K C k c) N n) n : Nat) 10 = tcU V B N K C n c k := rfl
        refine v_aload_n iX8_best_42 rfl ?_
        refine v_getR iX8_best_43 fX8_7 rfl rfl ?_
        refine v_bipush iX8_best_46 (by decide) ?_
        refine v_iload iX8_best_48 rfl ?_
        refine v_iadd iX8_best_50 ?_
        refine v_iaload iX8_best_51 rfl (by omega) (by exact (show _ = C k by rw [show ((19 : Int) + (k : Int)).toNat = 19 + k by omega]; exact hck.2.1)) ?_
        refine v_is6 iX8_best_52 ⟨rfl, rfl⟩ ?_
        refine v_aload_n iX8_best_54 rfl ?_
        refine v_getR iX8_best_55 fX8_7 rfl rfl ?_
        refine v_bipush iX8_best_58 (by decide) ?_
        refine v_iload iX8_best_60 rfl ?_
        refine v_iadd iX8_best_62 ?_
        refine v_iload iX8_best_63 rfl ?_
        refine v_iload_n iX8_best_65 rfl ?_
        refine v_iadd iX8_best_66 ?_
        refine v_bipush iX8_best_67 (by decide) ?_
        refine v_icmp_le (tgt := 77) iX8_best_69 (by decide) (by omega) (fun h69 => ?_) (fun h69 => ?_)
        · refine v_iload iX8_best_77 rfl ?_
          refine v_iload_n iX8_best_79 rfl ?_
          refine v_iadd iX8_best_80 ?_
          refine v_iastore iX8_best_81 rfl (by omega) ?_
          rw [show ((19 : Int) + (k : Int)).toNat = 19 + k by omega]
          refine v_aload_n iX8_best_82 rfl ?_
          refine c_V1 (Mc := mX8_tops) iX8_best_83 lX8_172 kX8_tops (qX8_tops _ _ (chR hR hKC hkn (by split <;> omega)) (chB_WF hW hkn h9 ⟨hck.2.2.1, hck.2.2.2.1⟩)) (by decide) rfl rfl rfl rfl (Nat.le_of_ble_eq_true rfl) ?_
          try simp only [Int.toNat_natCast]
          refine c_S1 (Mc := mX8_ones) iX8_best_86 lX8_225 kX8_ones (qX8_ones _ _ _ (by omega)) (by decide) rfl rfl (Nat.le_of_ble_eq_true rfl) ?_
          try simp only [Int.toNat_natCast]
          rw [et]
          refine v_is7 iX8_best_89 ⟨rfl, rfl⟩ ?_
          refine v_aload_n iX8_best_91 rfl ?_
          refine v_getR iX8_best_92 fX8_7 rfl rfl ?_
          refine v_bipush iX8_best_95 (by decide) ?_
          refine v_iload iX8_best_97 rfl ?_
          refine v_iadd iX8_best_99 ?_
          refine v_iload iX8_best_100 rfl ?_
          refine v_iastore iX8_best_102 rfl (by omega) ?_
          rw [uA_eq, show ((19 : Int) + (k : Int)).toNat = 19 + k by omega, rst hck.2.1]
          refine v_iload_n iX8_best_103 rfl ?_
          refine v_iconst iX8_best_104 ?_
          refine v_icmp_eq (tgt := 115) iX8_best_105 (by decide) (by omega) (fun h105 => ?_) (fun h105 => ?_)
          · refine v_iload iX8_best_115 rfl ?_
            refine v_goto (tgt := 121) iX8_best_117 (by decide) ?_
            refine v_is3 iX8_best_121 ⟨rfl, rfl⟩ ?_
            refine v_iload_n iX8_best_122 rfl ?_
            refine v_iload iX8_best_123 rfl ?_
            refine v_icmp_ne (tgt := 133) iX8_best_125 (by decide) (by omega) (fun h125 => ?_) (fun h125 => ?_)
            · refine v_iload iX8_best_133 rfl ?_
              refine v_is4 iX8_best_135 ⟨rfl, rfl⟩ ?_
              refine v_in5 iX8_best_137 ⟨rfl, rfl⟩ ?_
              refine v_goto (tgt := 33) iX8_best_140 (by decide) ?_
              first
                | (exfalso; omega)
                | (refine (ih (by omega)).asw rfl rfl ⟨rfl, rfl, rfl, cf_i ?_, cf_i ?_, rfl, trivial⟩ rfl <;> rw [bstR_y (fun k => tcU_r V B N K C n c k) (by omega)]; done)
                | (refine (ih (by omega)).asw rfl rfl ⟨rfl, rfl, rfl, cf_i ?_, cf_i ?_, rfl, trivial⟩ rfl <;> rw [bstR_n h105 (by omega)]; done)
            · refine v_iload iX8_best_128 rfl ?_
              refine v_goto (tgt := 135) iX8_best_130 (by decide) ?_
              refine v_is4 iX8_best_135 ⟨rfl, rfl⟩ ?_
              refine v_in5 iX8_best_137 ⟨rfl, rfl⟩ ?_
              refine v_goto (tgt := 33) iX8_best_140 (by decide) ?_
              first
                | (exfalso; omega)
                | (refine (ih (by omega)).asw rfl rfl ⟨rfl, rfl, rfl, cf_i ?_, cf_i ?_, rfl, trivial⟩ rfl <;> rw [bstR_y (fun k => tcU_r V B N K C n c k) (by omega)]; done)
                | (refine (ih (by omega)).asw rfl rfl ⟨rfl, rfl, rfl, cf_i ?_, cf_i ?_, rfl, trivial⟩ rfl <;> rw [bstR_n h105 (by omega)]; done)
          · refine v_iload iX8_best_108 rfl ?_
            refine v_iload iX8_best_110 rfl ?_
            refine v_icmp_ge (tgt := 120) iX8_best_112 (by decide) (by omega) (fun h112 => ?_) (fun h112 => ?_)
            · refine v_iload_n iX8_best_120 rfl ?_
              refine v_is3 iX8_best_121 ⟨rfl, rfl⟩ ?_
              refine v_iload_n iX8_best_122 rfl ?_
              refine v_iload iX8_best_123 rfl ?_
              refine v_icmp_ne (tgt := 133) iX8_best_125 (by decide) (by omega) (fun h125 => ?_) (fun h125 => ?_)
              · refine v_iload iX8_best_133 rfl ?_
                refine v_is4 iX8_best_135 ⟨rfl, rfl⟩ ?_
                refine v_in5 iX8_best_137 ⟨rfl, rfl⟩ ?_
                refine v_goto (tgt := 33) iX8_best_140 (by decide) ?_
                first
                  | (exfalso; omega)
                  | (refine (ih (by omega)).asw rfl rfl ⟨rfl, rfl, rfl, cf_i ?_, cf_i ?_, rfl, trivial⟩ rfl <;> rw [bstR_y (fun k => tcU_r V B N K C n c k) (by omega)]; done)
                  | (refine (ih (by omega)).asw rfl rfl ⟨rfl, rfl, rfl, cf_i ?_, cf_i ?_, rfl, trivial⟩ rfl <;> rw [bstR_n h105 (by omega)]; done)
              · refine v_iload iX8_best_128 rfl ?_
                refine v_goto (tgt := 135) iX8_best_130 (by decide) ?_
                refine v_is4 iX8_best_135 ⟨rfl, rfl⟩ ?_
                refine v_in5 iX8_best_137 ⟨rfl, rfl⟩ ?_
                refine v_goto (tgt := 33) iX8_best_140 (by decide) ?_
                first
                  | (exfalso; omega)
                  | (refine (ih (by omega)).asw rfl rfl ⟨rfl, rfl, rfl, cf_i ?_, cf_i ?_, rfl, trivial⟩ rfl <;> rw [bstR_y (fun k => tcU_r V B N K C n c k) (by omega)]; done)
                  | (refine (ih (by omega)).asw rfl rfl ⟨rfl, rfl, rfl, cf_i ?_, cf_i ?_, rfl, trivial⟩ rfl <;> rw [bstR_n h105 (by omega)]; done)
            · refine v_iload iX8_best_115 rfl ?_
              refine v_goto (tgt := 121) iX8_best_117 (by decide) ?_
              refine v_is3 iX8_best_121 ⟨rfl, rfl⟩ ?_
              refine v_iload_n iX8_best_122 rfl ?_
              refine v_iload iX8_best_123 rfl ?_
              refine v_icmp_ne (tgt := 133) iX8_best_125 (by decide) (by omega) (fun h125 => ?_) (fun h125 => ?_)
              · refine v_iload iX8_best_133 rfl ?_
                refine v_is4 iX8_best_135 ⟨rfl, rfl⟩ ?_
                refine v_in5 iX8_best_137 ⟨rfl, rfl⟩ ?_
                refine v_goto (tgt := 33) iX8_best_140 (by decide) ?_
                first
                  | (exfalso; omega)
                  | (refine (ih (by omega)).asw rfl rfl ⟨rfl, rfl, rfl, cf_i ?_, cf_i ?_, rfl, trivial⟩ rfl <;> rw [bstR_y (fun k => tcU_r V B N K C n c k) (by omega)]; done)
                  | (refine (ih (by omega)).asw rfl rfl ⟨rfl, rfl, rfl, cf_i ?_, cf_i ?_, rfl, trivial⟩ rfl <;> rw [bstR_n h105 (by omega)]; done)
              · refine v_iload iX8_best_128 rfl ?_
                refine v_goto (tgt := 135) iX8_best_130 (by decide) ?_
                refine v_is4 iX8_best_135 ⟨rfl, rfl⟩ ?_
                refine v_in5 iX8_best_137 ⟨rfl, rfl⟩ ?_
                refine v_goto (tgt := 33) iX8_best_140 (by decide) ?_
                first
                  | (exfalso; omega)
                  | (refine (ih (by omega)).asw rfl rfl ⟨rfl, rfl, rfl, cf_i ?_, cf_i ?_, rfl, trivial⟩ rfl <;> rw [bstR_y (fun k => tcU_r V B N K C n c k) (by omega)]; done)
                  | (refine (ih (by omega)).asw rfl rfl ⟨rfl, rfl, rfl, cf_i ?_, cf_i ?_, rfl, trivial⟩ rfl <;> rw [bstR_n h105 (by omega)]; done)
        · refine v_bipush iX8_best_72 (by decide) ?_
          refine v_goto (tgt := 81) iX8_best_74 (by decide) ?_
          refine v_iastore iX8_best_81 rfl (by omega) ?_
          rw [show ((19 : Int) + (k : Int)).toNat = 19 + k by omega]
          refine v_aload_n iX8_best_82 rfl ?_
          refine c_V1 (Mc := mX8_tops) iX8_best_83 lX8_172 kX8_tops (qX8_tops _ _ (chR hR hKC hkn (by split <;> omega)) (chB_WF hW hkn h9 ⟨hck.2.2.1, hck.2.2.2.1⟩)) (by decide) rfl rfl rfl rfl (Nat.le_of_ble_eq_true rfl) ?_
          try simp only [Int.toNat_natCast]
          refine c_S1 (Mc := mX8_ones) iX8_best_86 lX8_225 kX8_ones (qX8_ones _ _ _ (by omega)) (by decide) rfl rfl (Nat.le_of_ble_eq_true rfl) ?_
          try simp only [Int.toNat_natCast]
          rw [et]
          refine v_is7 iX8_best_89 ⟨rfl, rfl⟩ ?_
          refine v_aload_n iX8_best_91 rfl ?_
          refine v_getR iX8_best_92 fX8_7 rfl rfl ?_
          refine v_bipush iX8_best_95 (by decide) ?_
          refine v_iload iX8_best_97 rfl ?_
          refine v_iadd iX8_best_99 ?_
          refine v_iload iX8_best_100 rfl ?_
          refine v_iastore iX8_best_102 rfl (by omega) ?_
          rw [uA_eq, show ((19 : Int) + (k : Int)).toNat = 19 + k by omega, rst hck.2.1]
          refine v_iload_n iX8_best_103 rfl ?_
          refine v_iconst iX8_best_104 ?_
          refine v_icmp_eq (tgt := 115) iX8_best_105 (by decide) (by omega) (fun h105 => ?_) (fun h105 => ?_)
          · refine v_iload iX8_best_115 rfl ?_
            refine v_goto (tgt := 121) iX8_best_117 (by decide) ?_
            refine v_is3 iX8_best_121 ⟨rfl, rfl⟩ ?_
            refine v_iload_n iX8_best_122 rfl ?_
            refine v_iload iX8_best_123 rfl ?_
            refine v_icmp_ne (tgt := 133) iX8_best_125 (by decide) (by omega) (fun h125 => ?_) (fun h125 => ?_)
            · refine v_iload iX8_best_133 rfl ?_
              refine v_is4 iX8_best_135 ⟨rfl, rfl⟩ ?_
              refine v_in5 iX8_best_137 ⟨rfl, rfl⟩ ?_
              refine v_goto (tgt := 33) iX8_best_140 (by decide) ?_
              first
                | (exfalso; omega)
                | (refine (ih (by omega)).asw rfl rfl ⟨rfl, rfl, rfl, cf_i ?_, cf_i ?_, rfl, trivial⟩ rfl <;> rw [bstR_y (fun k => tcU_r V B N K C n c k) (by omega)]; done)
                | (refine (ih (by omega)).asw rfl rfl ⟨rfl, rfl, rfl, cf_i ?_, cf_i ?_, rfl, trivial⟩ rfl <;> rw [bstR_n h105 (by omega)]; done)
            · refine v_iload iX8_best_128 rfl ?_
              refine v_goto (tgt := 135) iX8_best_130 (by decide) ?_
              refine v_is4 iX8_best_135 ⟨rfl, rfl⟩ ?_
              refine v_in5 iX8_best_137 ⟨rfl, rfl⟩ ?_
              refine v_goto (tgt := 33) iX8_best_140 (by decide) ?_
              first
                | (exfalso; omega)
                | (refine (ih (by omega)).asw rfl rfl ⟨rfl, rfl, rfl, cf_i ?_, cf_i ?_, rfl, trivial⟩ rfl <;> rw [bstR_y (fun k => tcU_r V B N K C n c k) (by omega)]; done)
                | (refine (ih (by omega)).asw rfl rfl ⟨rfl, rfl, rfl, cf_i ?_, cf_i ?_, rfl, trivial⟩ rfl <;> rw [bstR_n h105 (by omega)]; done)
          · refine v_iload iX8_best_108 rfl ?_
            refine v_iload iX8_best_110 rfl ?_
            refine v_icmp_ge (tgt := 120) iX8_best_112 (by decide) (by omega) (fun h112 => ?_) (fun h112 => ?_)
            · refine v_iload_n iX8_best_120 rfl ?_
              refine v_is3 iX8_best_121 ⟨rfl, rfl⟩ ?_
              refine v_iload_n iX8_best_122 rfl ?_
              refine v_iload iX8_best_123 rfl ?_
              refine v_icmp_ne (tgt := 133) iX8_best_125 (by decide) (by omega) (fun h125 => ?_) (fun h125 => ?_)
              · refine v_iload iX8_best_133 rfl ?_
                refine v_is4 iX8_best_135 ⟨rfl, rfl⟩ ?_
                refine v_in5 iX8_best_137 ⟨rfl, rfl⟩ ?_
                refine v_goto (tgt := 33) iX8_best_140 (by decide) ?_
                first
                  | (exfalso; omega)
                  | (refine (ih (by omega)).asw rfl rfl ⟨rfl, rfl, rfl, cf_i ?_, cf_i ?_, rfl, trivial⟩ rfl <;> rw [bstR_y (fun k => tcU_r V B N K C n c k) (by omega)]; done)
                  | (refine (ih (by omega)).asw rfl rfl ⟨rfl, rfl, rfl, cf_i ?_, cf_i ?_, rfl, trivial⟩ rfl <;> rw [bstR_n h105 (by omega)]; done)
              · refine v_iload iX8_best_128 rfl ?_
                refine v_goto (tgt := 135) iX8_best_130 (by decide) ?_
                refine v_is4 iX8_best_135 ⟨rfl, rfl⟩ ?_
                refine v_in5 iX8_best_137 ⟨rfl, rfl⟩ ?_
                refine v_goto (tgt := 33) iX8_best_140 (by decide) ?_
                first
                  | (exfalso; omega)
                  | (refine (ih (by omega)).asw rfl rfl ⟨rfl, rfl, rfl, cf_i ?_, cf_i ?_, rfl, trivial⟩ rfl <;> rw [bstR_y (fun k => tcU_r V B N K C n c k) (by omega)]; done)
                  | (refine (ih (by omega)).asw rfl rfl ⟨rfl, rfl, rfl, cf_i ?_, cf_i ?_, rfl, trivial⟩ rfl <;> rw [bstR_n h105 (by omega)]; done)
            · refine v_iload iX8_best_115 rfl ?_
              refine v_goto (tgt := 121) iX8_best_117 (by decide) ?_
              refine v_is3 iX8_best_121 ⟨rfl, rfl⟩ ?_
              refine v_iload_n iX8_best_122 rfl ?_
              refine v_iload iX8_best_123 rfl ?_
              refine v_icmp_ne (tgt := 133) iX8_best_125 (by decide) (by omega) (fun h125 => ?_) (fun h125 => ?_)
              · refine v_iload iX8_best_133 rfl ?_
                refine v_is4 iX8_best_135 ⟨rfl, rfl⟩ ?_
                refine v_in5 iX8_best_137 ⟨rfl, rfl⟩ ?_
                refine v_goto (tgt := 33) iX8_best_140 (by decide) ?_
                first
                  | (exfalso; omega)
                  | (refine (ih (by omega)).asw rfl rfl ⟨rfl, rfl, rfl, cf_i ?_, cf_i ?_, rfl, trivial⟩ rfl <;> rw [bstR_y (fun k => tcU_r V B N K C n c k) (by omega)]; done)
                  | (refine (ih (by omega)).asw rfl rfl ⟨rfl, rfl, rfl, cf_i ?_, cf_i ?_, rfl, trivial⟩ rfl <;> rw [bstR_n h105 (by omega)]; done)
              · refine v_iload iX8_best_128 rfl ?_
                refine v_goto (tgt := 135) iX8_best_130 (by decide) ?_
                refine v_is4 iX8_best_135 ⟨rfl, rfl⟩ ?_
                refine v_in5 iX8_best_137 ⟨rfl, rfl⟩ ?_
                refine v_goto (tgt := 33) iX8_best_140 (by decide) ?_
                first
                  | (exfalso; omega)
                  | (refine (ih (by omega)).asw rfl rfl ⟨rfl, rfl, rfl, cf_i ?_, cf_i ?_, rfl, trivial⟩ rfl <;> rw [bstR_y (fun k => tcU_r V B N K C n c k) (by omega)]; done)
                  | (refine (ih (by omega)).asw rfl rfl ⟨rfl, rfl, rfl, cf_i ?_, cf_i ?_, rfl, trivial⟩ rfl <;> rw [bstR_n h105 (by omega)]; done)
    · try simp only [Int.toNat_natCast] at h19
      (try simp only [decide_eq_false_iff_not] at h9)
      (try simp only [decide_eq_false_iff_not] at h19)
      refine v_bipush iX8_best_22 (by decide) ?_
      exact r_i iX8_best_24 rfl (⟨cf_i (by rw [if_neg (by omega)]), rfl, rfl⟩)
