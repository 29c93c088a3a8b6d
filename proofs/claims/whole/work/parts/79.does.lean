set_option maxHeartbeats 4000000 in
set_option maxRecDepth 100000 in
theorem qX8_does (σ α : St) (P_ : pnT) (hL_ : rlU σ α P_) (hwf_ : wfP P_) (w_ x_ y_ z_ : Int) (hw_ : 0 ≤ w_ ∧ w_ ≤ 5) (hk_ : okU w_ x_ y_ z_ (pnN P_) (pnR P_ 0)) (hb_ : nbU w_ α x_ y_ z_) : CG 1 mX8_does [vR 95, vI w_] σ α (fun r' s' a' => r' = none ∧ frD σ α s' a' ∧ rlU s' a' (doU w_ x_ y_ z_ P_)) := by
  refine CG.of [some (vR 95), some (vI w_)] (by decide) (by simp [lvA]) rfl ?_
  refine v_iload_n iX8_does_0 rfl ?_
  rcases (show w_ = 0 ∨ w_ = 1 ∨ w_ = 2 ∨ w_ = 3 ∨ w_ = 4 ∨ (w_ < 0 ∨ 4 < w_) by omega) with rfl | rfl | rfl | rfl | rfl | hsw
  · refine v_tabIn (tgt := 36) iX8_does_1 (by decide) (by decide) rfl (by decide) ?_
    refine v_aload_n iX8_does_36 rfl ?_
    refine c_V0 (Mc := mX8_anew) iX8_does_37 lX8_104 kX8_anew (qX8_anew σ α) (by decide) rfl rfl rfl rfl (Nat.le_of_ble_eq_true rfl) ?_
    try simp only [Int.toNat_natCast]
    refine v_goto (tgt := 211) iX8_does_40 (by decide) ?_
    exact r_v iX8_does_211 rfl (by
      refine ⟨rfl, ⟨fun q k hq => by rw [uS_ne _ _ (by omega), uS_ne _ _ (by omega), uS_ne _ _ (by omega), uS_ne _ _ (by omega)], fun q g6 g7 g8 g9 => by rw [uA_ne _ _ g9, uA_ne _ _ g6], fun i hi => by rw [uA_ne _ _ (by decide), uA_eq, anR, if_neg (by omega)]⟩, ?_⟩
      rw [doU_0]
      refine ⟨by rw [uS_ne _ _ (by omega), uS_ne _ _ (by omega), uS_ne _ _ (by omega), uS_eq]; rfl, ⟨by rw [uS_ne _ _ (by omega), uS_ne _ _ (by omega), uS_eq]; rfl, by rw [uS_ne _ _ (by omega), uS_eq]; rfl, by rw [uS_eq]; rfl⟩, fun i hi => ⟨by rw [uA_ne _ _ (by decide), uA_ne _ _ (by decide)]; exact (hL_.2.2.1 i hi).1, by rw [uA_ne _ _ (by decide), uA_ne _ _ (by decide)]; exact (hL_.2.2.1 i hi).2.1, by rw [uA_eq, cpA, if_pos hi]; rfl⟩, fun k hk => ?_⟩
      rw [uA_ne _ _ (by decide), uA_eq]
      show anR (α 96) 10 k = anR (pnR P_) 10 k
      unfold anR
      split
      · rfl
      · exact hL_.2.2.2 k hk)
  · refine v_tabIn (tgt := 43) iX8_does_1 (by decide) (by decide) rfl (by decide) ?_
    obtain ⟨hk1_, hk2_, hk3_⟩ := hk_.1 rfl
    have hn10_ := hwf_.1
    refine v_aload_n iX8_does_43 rfl ?_
    refine v_getR iX8_does_44 fX8_13 rfl rfl ?_
    refine v_aload_n iX8_does_47 rfl ?_
    refine v_getI iX8_does_48 fX8_57 rfl rfl (by exact hL_.1) ?_
    refine v_aload_n iX8_does_51 rfl ?_
    refine v_getR iX8_does_52 fX8_48 rfl rfl ?_
    refine v_iconst iX8_does_55 ?_
    refine v_iaload iX8_does_56 rfl (by omega) (by exact (show _ = x_ by show α 105 0 = _; exact (hb_.1 (by decide)).1)) ?_
    refine v_iastore iX8_does_57 rfl (by omega) ?_
    refine v_aload_n iX8_does_58 rfl ?_
    refine v_getR iX8_does_59 fX8_16 rfl rfl ?_
    refine v_aload_n iX8_does_62 rfl ?_
    refine v_getI iX8_does_63 fX8_57 rfl rfl (by exact hL_.1) ?_
    refine v_aload_n iX8_does_66 rfl ?_
    refine v_getR iX8_does_67 fX8_48 rfl rfl ?_
    refine v_iconst iX8_does_70 ?_
    refine v_iaload iX8_does_71 rfl (by omega) (by exact (show _ = y_ by show uA α _ _ 105 1 = _; rw [uA_ne _ _ (by decide)]; exact (hb_.1 (by decide)).2)) ?_
    refine v_iastore iX8_does_72 rfl (by omega) ?_
    refine v_aload_n iX8_does_73 rfl ?_
    refine v_dup iX8_does_74 (by intro z h; cases h) ?_
    refine v_getI iX8_does_75 fX8_57 rfl rfl (by exact hL_.1) ?_
    refine v_iconst iX8_does_78 ?_
    refine v_iadd iX8_does_79 ?_
    refine v_put iX8_does_80 pX8_57 rfl rfl (by intro h; cases h) ?_
    refine v_goto (tgt := 211) iX8_does_83 (by decide) ?_
    exact r_v iX8_does_211 rfl (by
      refine ⟨rfl, ⟨fun q k hq => by rw [uS_ne _ _ (by omega)], fun q g6 g7 g8 g9 => by rw [uA_ne _ _ g8, uA_ne _ _ g7], fun i hi => by rw [uA_ne _ _ (by decide), uA_ne _ _ (by decide)]⟩, ?_⟩
      rw [doU_1]
      refine ⟨by rw [uS_eq]; show (pnN P_ : Int) + 1 = ((pnN P_ + 1 : Nat) : Int); omega, ⟨by rw [uS_ne _ _ (by omega)]; exact hL_.2.1.1, by rw [uS_ne _ _ (by omega)]; exact hL_.2.1.2.1, by rw [uS_ne _ _ (by omega)]; exact hL_.2.1.2.2⟩, fun i hi => ⟨?_, ?_, ?_⟩, fun k hk => ?_⟩
      · rw [uA_ne _ _ (by decide), uA_eq, Int.toNat_natCast]
        show uF (α 97) (pnN P_) x_ i = uF (pnV P_) (pnN P_) x_ i
        unfold uF
        split
        · rfl
        · exact (hL_.2.2.1 i hi).1
      · rw [uA_eq, uA_ne _ _ (by decide), Int.toNat_natCast]
        show uF (α 98) (pnN P_) y_ i = uF (pnK P_) (pnN P_) y_ i
        unfold uF
        split
        · rfl
        · exact (hL_.2.2.1 i hi).2.1
      · rw [uA_ne _ _ (by decide), uA_ne _ _ (by decide)]; exact (hL_.2.2.1 i hi).2.2
      · rw [uA_ne _ _ (by decide), uA_ne _ _ (by decide)]; exact hL_.2.2.2 k hk)
  · refine v_tabIn (tgt := 86) iX8_does_1 (by decide) (by decide) rfl (by decide) ?_
    obtain ⟨hk1_, hk2_, hk3_⟩ := hk_.2.1 rfl
    have hn10_ := hwf_.1
    have hjx_ := (hwf_.2.1 x_.toNat (by omega)).2.2.1
    have hjy_ := (hwf_.2.1 y_.toNat (by omega)).2.2.1
    refine v_aload_n iX8_does_86 rfl ?_
    refine v_getR iX8_does_87 fX8_19 rfl rfl ?_
    refine v_aload_n iX8_does_90 rfl ?_
    refine v_getR iX8_does_91 fX8_48 rfl rfl ?_
    refine v_iconst iX8_does_94 ?_
    refine v_iaload iX8_does_95 rfl (by omega) (by exact (show _ = x_ by show α 105 0 = _; exact (hb_.1 (by decide)).1)) ?_
    refine v_dup2 iX8_does_96 ⟨(by intro z h; cases h), (by intro z h; cases h)⟩ ?_
    refine v_iaload iX8_does_97 rfl (by omega) (by exact (show _ = pnJ P_ x_.toNat from (hL_.2.2.1 _ (by omega)).2.2)) ?_
    refine v_iconst iX8_does_98 ?_
    refine v_aload_n iX8_does_99 rfl ?_
    refine v_getR iX8_does_100 fX8_48 rfl rfl ?_
    refine v_iconst iX8_does_103 ?_
    refine v_iaload iX8_does_104 rfl (by omega) (by exact (show _ = y_ by show α 105 1 = _; exact (hb_.1 (by decide)).2)) ?_
    refine v_ishl1 iX8_does_105 (by omega) ?_
    refine v_ior iX8_does_106 (by refine ⟨?_, ?_⟩ <;> first | exact Int.natCast_nonneg _ | omega) ?_
    refine v_iastore iX8_does_107 rfl (by omega) ?_
    refine v_aload_n iX8_does_108 rfl ?_
    refine v_getR iX8_does_109 fX8_19 rfl rfl ?_
    refine v_aload_n iX8_does_112 rfl ?_
    refine v_getR iX8_does_113 fX8_48 rfl rfl ?_
    refine v_iconst iX8_does_116 ?_
    refine v_iaload iX8_does_117 rfl (by omega) (by exact (show _ = y_ by show uA α _ _ 105 1 = _; rw [uA_ne _ _ (by decide)]; exact (hb_.1 (by decide)).2)) ?_
    refine v_dup2 iX8_does_118 ⟨(by intro z h; cases h), (by intro z h; cases h)⟩ ?_
    refine v_iaload iX8_does_119 rfl (by omega) (by exact (show _ = pnJ P_ y_.toNat by rw [uA_eq, uF_ne _ _ (by omega)]; exact (hL_.2.2.1 _ (by omega)).2.2)) ?_
    refine v_iconst iX8_does_120 ?_
    refine v_aload_n iX8_does_121 rfl ?_
    refine v_getR iX8_does_122 fX8_48 rfl rfl ?_
    refine v_iconst iX8_does_125 ?_
    refine v_iaload iX8_does_126 rfl (by omega) (by exact (show _ = x_ by show uA α _ _ 105 0 = _; rw [uA_ne _ _ (by decide)]; exact (hb_.1 (by decide)).1)) ?_
    refine v_ishl1 iX8_does_127 (by omega) ?_
    refine v_ior iX8_does_128 (by refine ⟨?_, ?_⟩ <;> first | exact Int.natCast_nonneg _ | omega) ?_
    refine v_iastore iX8_does_129 rfl (by omega) ?_
    refine v_goto (tgt := 211) iX8_does_130 (by decide) ?_
    exact r_v iX8_does_211 rfl (by
      refine ⟨rfl, ⟨fun q k hq => rfl, fun q g6 g7 g8 g9 => by rw [uA_ne _ _ g9, uA_ne _ _ g9], fun i hi => by rw [uA_ne _ _ (by decide), uA_ne _ _ (by decide)]⟩, ?_⟩
      rw [doU_2]
      refine ⟨hL_.1, hL_.2.1, fun i hi => ⟨by rw [uA_ne _ _ (by decide), uA_ne _ _ (by decide)]; exact (hL_.2.2.1 i hi).1, by rw [uA_ne _ _ (by decide), uA_ne _ _ (by decide)]; exact (hL_.2.2.1 i hi).2.1, ?_⟩, fun k hk => by rw [uA_ne _ _ (by decide), uA_ne _ _ (by decide)]; exact hL_.2.2.2 k hk⟩
      rw [uA_eq, uA_eq, Int.toNat_natCast, Int.toNat_natCast]
      show uF (uF (α 99) x_.toNat _) y_.toNat _ i = jnF (pnJ P_) x_.toNat y_.toNat i
      unfold jnF uF
      split
      · rfl
      · split
        · rfl
        · exact (hL_.2.2.1 i hi).2.2)
  · refine v_tabIn (tgt := 133) iX8_does_1 (by decide) (by decide) rfl (by decide) ?_
    obtain ⟨hk1_, hk2_, hk3_⟩ := hk_.2.2.1 rfl
    have hm6_ := hwf_.2.2.2.1.1
    refine v_aload_n iX8_does_133 rfl ?_
    refine v_aload_n iX8_does_134 rfl ?_
    refine v_getR iX8_does_135 fX8_48 rfl rfl ?_
    refine v_iconst iX8_does_138 ?_
    refine v_iaload iX8_does_139 rfl (by omega) (by exact (show _ = x_ by show α 105 0 = _; exact (hb_.1 (by decide)).1)) ?_
    refine v_aload_n iX8_does_140 rfl ?_
    refine v_getR iX8_does_141 fX8_48 rfl rfl ?_
    refine v_iconst iX8_does_144 ?_
    refine v_iaload iX8_does_145 rfl (by omega) (by exact (show _ = y_ by show α 105 1 = _; exact (hb_.1 (by decide)).2)) ?_
    refine v_aload_n iX8_does_146 rfl ?_
    refine v_getR iX8_does_147 fX8_48 rfl rfl ?_
    refine v_iconst iX8_does_150 ?_
    refine v_iaload iX8_does_151 rfl (by omega) (by exact (show _ = z_ by show α 105 2 = _; exact hb_.2 (by decide))) ?_
    refine c_V0 (Mc := mX8_addRiser) iX8_does_152 lX8_107 kX8_addRiser (qX8_addRiser σ α (pnR P_ 0).toNat (by rw [hL_.2.2.2 0 (by decide)]; omega) (by omega) x_ y_ z_) (by decide) rfl rfl rfl rfl (Nat.le_of_ble_eq_true rfl) ?_
    try simp only [Int.toNat_natCast]
    refine v_goto (tgt := 211) iX8_does_155 (by decide) ?_
    exact r_v iX8_does_211 rfl (by
      refine ⟨rfl, ⟨fun q k hq => rfl, fun q g6 g7 g8 g9 => by rw [uA_ne _ _ g6], fun i hi => by rw [uA_eq, arR, uF_ne _ _ (by omega), uF_ne _ _ (by omega), uF_ne _ _ (by omega), uF_ne _ _ (by omega)]⟩, ?_⟩
      rw [doU_3]
      refine ⟨hL_.1, hL_.2.1, fun i hi => by rw [uA_ne _ _ (by decide), uA_ne _ _ (by decide), uA_ne _ _ (by decide)]; exact hL_.2.2.1 i hi, fun k hk => ?_⟩
      rw [uA_eq]
      show arR (α 96) (pnR P_ 0).toNat x_ y_ z_ k = arR (pnR P_) (pnR P_ 0).toNat x_ y_ z_ k
      unfold arR uF
      repeat' split
      all_goals first | rfl | exact hL_.2.2.2 k hk)
  · refine v_tabIn (tgt := 158) iX8_does_1 (by decide) (by decide) rfl (by decide) ?_
    obtain ⟨hk1_, hk2_⟩ := hk_.2.2.2.1 rfl
    have hn10_ := hwf_.1
    refine v_aload_n iX8_does_158 rfl ?_
    refine v_getR iX8_does_159 fX8_7 rfl rfl ?_
    refine v_bipush iX8_does_162 (by decide) ?_
    refine v_aload_n iX8_does_164 rfl ?_
    refine v_getR iX8_does_165 fX8_48 rfl rfl ?_
    refine v_iconst iX8_does_168 ?_
    refine v_iaload iX8_does_169 rfl (by omega) (by exact (show _ = x_ by show α 105 0 = _; exact (hb_.1 (by decide)).1)) ?_
    refine v_iadd iX8_does_170 ?_
    refine v_aload_n iX8_does_171 rfl ?_
    refine v_getR iX8_does_172 fX8_48 rfl rfl ?_
    refine v_iconst iX8_does_175 ?_
    refine v_iaload iX8_does_176 rfl (by omega) (by exact (show _ = y_ by show α 105 1 = _; exact (hb_.1 (by decide)).2)) ?_
    refine v_iastore iX8_does_177 rfl (by omega) ?_
    refine v_goto (tgt := 211) iX8_does_178 (by decide) ?_
    exact r_v iX8_does_211 rfl (by
      refine ⟨rfl, ⟨fun q k hq => rfl, fun q g6 g7 g8 g9 => by rw [uA_ne _ _ g6], fun i hi => by rw [uA_eq, uF_ne _ _ (by omega)]⟩, ?_⟩
      rw [doU_4]
      refine ⟨hL_.1, hL_.2.1, fun i hi => by rw [uA_ne _ _ (by decide), uA_ne _ _ (by decide), uA_ne _ _ (by decide)]; exact hL_.2.2.1 i hi, fun k hk => ?_⟩
      rw [uA_eq, show (19 + x_).toNat = 19 + x_.toNat by omega]
      show uF (α 96) (19 + x_.toNat) y_ k = uF (pnR P_) (19 + x_.toNat) y_ k
      unfold uF
      split
      · rfl
      · exact hL_.2.2.2 k hk)
  · refine v_tabOut (tgt := 181) iX8_does_1 (by omega) hsw (by decide) ?_
    obtain rfl : w_ = 5 := by omega
    obtain ⟨hk1_, hk2_, hk3_⟩ := hk_.2.2.2.2 rfl
    refine v_aload_n iX8_does_181 rfl ?_
    refine v_aload_n iX8_does_182 rfl ?_
    refine v_getR iX8_does_183 fX8_48 rfl rfl ?_
    refine v_iconst iX8_does_186 ?_
    refine v_iaload iX8_does_187 rfl (by omega) (by exact (show _ = x_ by show α 105 0 = _; exact (hb_.1 (by decide)).1)) ?_
    refine v_put iX8_does_188 pX8_22 rfl rfl (by intro h; cases h) ?_
    refine v_aload_n iX8_does_191 rfl ?_
    refine v_aload_n iX8_does_192 rfl ?_
    refine v_getR iX8_does_193 fX8_48 rfl rfl ?_
    refine v_iconst iX8_does_196 ?_
    refine v_iaload iX8_does_197 rfl (by omega) (by exact (show _ = y_ by show α 105 1 = _; exact (hb_.1 (by decide)).2)) ?_
    refine v_put iX8_does_198 pX8_26 rfl rfl (by intro h; cases h) ?_
    refine v_aload_n iX8_does_201 rfl ?_
    refine v_aload_n iX8_does_202 rfl ?_
    refine v_getR iX8_does_203 fX8_48 rfl rfl ?_
    refine v_iconst iX8_does_206 ?_
    refine v_iaload iX8_does_207 rfl (by omega) (by exact (show _ = z_ by show α 105 2 = _; exact hb_.2 (by decide))) ?_
    refine v_put iX8_does_208 pX8_29 rfl rfl (by intro h; cases h) ?_
    exact r_v iX8_does_211 rfl (by
      refine ⟨rfl, ⟨fun q k hq => by rw [uS_ne _ _ (by omega), uS_ne _ _ (by omega), uS_ne _ _ (by omega)], fun q g6 g7 g8 g9 => rfl, fun i hi => rfl⟩, ?_⟩
      rw [doU_5]
      exact ⟨by rw [uS_ne _ _ (by omega), uS_ne _ _ (by omega), uS_ne _ _ (by omega)]; exact hL_.1, ⟨by rw [uS_ne _ _ (by omega), uS_ne _ _ (by omega), uS_eq]; rfl, by rw [uS_ne _ _ (by omega), uS_eq]; rfl, by rw [uS_eq]; rfl⟩, hL_.2.2.1, hL_.2.2.2⟩)
