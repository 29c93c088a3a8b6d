/-- the words, seven letters each -/
def wrdL : List Int := [99, 97, 115, 116, 105, 110, 103, 115, 101, 99, 116, 105, 111, 110, 106, 111, 105, 110, 116, 0, 0, 114, 105, 115, 101, 114, 0, 0, 99, 104, 105, 108, 108, 0, 0, 114, 117, 108, 101, 0, 0, 0]
def wrd (k : Nat) : Int := wrdL.getD k 0
theorem wrd_b : ∀ i, i < 6 → ∀ j, j < 7 → j < sxN.getD i 0 → (sxB.getD i []).getD j 0 = i32 (wrd (7 * i + j)) := by decide +kernel
theorem wrd_a : ∀ i, i < 6 → ∀ j, j < 7 → (((wrd (7 * i + j)).toNat &&& (255 : Int).toNat : Nat) : Int) = wrd (7 * i + j) := by decide +kernel
theorem wrd_c : ∀ i, i < 6 → ∀ j, j < 7 → ((i32 (wrd (7 * i + j))).toUInt32 % 65536).toInt32 = i32 (wrd (7 * i + j)) := by decide +kernel
theorem wrd_n : ∀ i, i < 6 → ∀ j, j < 7 → narrow .char (.int (i32 (wrd (7 * i + j)))) = .int (i32 (wrd (7 * i + j))) := by decide +kernel
theorem wrd_r : ∀ k, k < 42 → 0 ≤ wrd k ∧ wrd k ≤ 122 := by decide +kernel
theorem wrd_0 : ∀ i, i < 6 → 97 ≤ wrd (7 * i) ∧ wrd (7 * i) ≤ 122 := by decide +kernel
theorem wrd_z : ∀ i, i < 6 → ∀ j, j < 7 → (wrd (7 * i + j) = 0 ↔ sxN.getD i 0 ≤ j) := by decide +kernel
theorem sxN_r : ∀ i, i < 6 → 4 ≤ sxN.getD i 0 ∧ sxN.getD i 0 ≤ 7 := by decide +kernel
set_option maxHeartbeats 4000000 in
set_option maxRecDepth 100000 in
theorem qJ0_coder (σ α : St) (i : Nat) (hi : i < 6) : CF 0 mJ0_coder_7d493 [vX (i + 1)] σ α (some (vI 0)) σ α := by
  refine CG.of [some (vX (i + 1))] (by decide) (by simp [lvA]) rfl ?_
  refine v_getsC iJ0_coder_7d493_0 rfl ?_
  refine v_if_eq (tgt := 13) iJ0_coder_7d493_3 (by decide) (by omega) (fun h => (by exfalso; omega)) (fun h => ?_)
  refine v_aload_x iJ0_coder_7d493_6 rfl ?_
  refine v_getC iJ0_coder_7d493_7 rfl hi ?_
  refine v_goto (tgt := 14) iJ0_coder_7d493_10 (by decide) ?_
  exact v_iretT iJ0_coder_7d493_14 rfl (by decide +kernel) ⟨Nat.le_refl _, Nat.le_refl _⟩ ⟨rfl, rfl, rfl, rfl⟩
set_option maxHeartbeats 4000000 in
set_option maxRecDepth 100000 in
theorem qJ0_isLatin1 (σ α : St) (i : Nat) (hi : i < 6) : CF 0 mJ0_isLatin1_aae02 [vX (i + 1)] σ α (some (vI 1)) σ α := by
  refine CG.of [some (vX (i + 1))] (by decide) (by simp [lvA]) rfl ?_
  refine v_getsC iJ0_isLatin1_aae02_0 rfl ?_
  refine v_if_eq (tgt := 17) iJ0_isLatin1_aae02_3 (by decide) (by omega) (fun h => (by exfalso; omega)) (fun h => ?_)
  refine v_aload_x iJ0_isLatin1_aae02_6 rfl ?_
  refine v_getC iJ0_isLatin1_aae02_7 rfl hi ?_
  refine v_if_ne (tgt := 17) iJ0_isLatin1_aae02_10 (by decide) (by omega) (fun h => (by exfalso; omega)) (fun h => ?_)
  refine v_iconst iJ0_isLatin1_aae02_13 ?_
  refine v_goto (tgt := 18) iJ0_isLatin1_aae02_14 (by decide) ?_
  exact r_b iJ0_isLatin1_aae02_18 rfl (by decide) ⟨rfl, rfl, rfl⟩
set_option maxHeartbeats 4000000 in
set_option maxRecDepth 100000 in
theorem qJ0_length (σ α : St) (i : Nat) (hi : i < 6) : CF 1 mJ0_length_8abf5 [vX (i + 1)] σ α (some (vI (sxN.getD i 0 : Nat))) σ α := by
  have hn := sxN_r i hi
  refine CG.of [some (vX (i + 1))] (by decide) (by simp [lvA]) rfl ?_
  refine v_aload_x iJ0_length_8abf5_0 rfl ?_
  refine v_getV iJ0_length_8abf5_1 rfl hi ?_
  refine v_lenX iJ0_length_8abf5_4 hi rfl ?_
  refine v_aload_x iJ0_length_8abf5_5 rfl ?_
  refine c_X1 (Mc := mJ0_coder_7d493) iJ0_length_8abf5_6 lJ0_335 kJ0_coder_7d493 rfl (qJ0_coder _ _ i hi) (by decide) rfl hi rfl (Nat.le_of_ble_eq_true rfl) ?_
  refine v_ishr iJ0_length_8abf5_9 (by omega) (by omega) ?_
  exact r_i iJ0_length_8abf5_10 rfl ⟨cf_i (by simp), rfl, rfl⟩
set_option maxHeartbeats 4000000 in
set_option maxRecDepth 100000 in
theorem qJ3_checkIndex (σ α : St) (t_ : Nat) (j n : Int) (hj : 0 ≤ j ∧ j < n ∧ n ≤ 1000) : CF 0 mJ3_checkIndex [vI j, vI n, vX t_] σ α (some (vI j)) σ α := by
  refine CG.of [some (vI j), some (vI n), some (vX t_)] (by decide) (by simp [lvA]) rfl ?_
  refine v_iload_n iJ3_ck_0 rfl ?_
  refine v_if_lt (tgt := 9) iJ3_ck_1 (by decide) (by omega) (fun h => (by exfalso; omega)) (fun h => ?_)
  refine v_iload_n iJ3_ck_4 rfl ?_
  refine v_iload_n iJ3_ck_5 rfl ?_
  refine v_icmp_lt (tgt := 16) iJ3_ck_6 (by decide) (by omega) (fun h => ?_) (fun h => (by exfalso; omega))
  refine v_iload_n iJ3_ck_16 rfl ?_
  exact r_i iJ3_ck_17 rfl ⟨rfl, rfl, rfl⟩
set_option maxHeartbeats 4000000 in
set_option maxRecDepth 100000 in
theorem qJ0_checkIndex (σ α : St) (j n : Int) (hj : 0 ≤ j ∧ j < n ∧ n ≤ 1000) : CF 1 mJ0_checkIndex [vI j, vI n] σ α none σ α := by
  refine CG.of [some (vI j), some (vI n)] (by decide) (by simp [lvA]) rfl ?_
  refine v_iload_n iJ0_ck_0 rfl ?_
  refine v_iload_n iJ0_ck_1 rfl ?_
  refine v_getsF iJ0_ck_2 rfl ?_ ?_
  · refine c_S1 (Mc := mJ3_checkIndex) iJ0_ck_5 lJ0_1059 kJ3_checkIndex (qJ3_checkIndex _ _ 13 j n hj) (by decide) rfl rfl (Nat.le_of_ble_eq_true rfl) ?_
    refine v_pop iJ0_ck_8 (by intro z h; cases h) ?_
    exact r_v iJ0_ck_9 rfl ⟨rfl, rfl, rfl⟩
  · refine c_S1 (Mc := mJ3_checkIndex) iJ0_ck_5 lJ0_1059 kJ3_checkIndex (qJ3_checkIndex _ _ 0 j n hj) (by decide) rfl rfl (Nat.le_of_ble_eq_true rfl) ?_
    refine v_pop iJ0_ck_8 (by intro z h; cases h) ?_
    exact r_v iJ0_ck_9 rfl ⟨rfl, rfl, rfl⟩
set_option maxHeartbeats 4000000 in
set_option maxRecDepth 100000 in
theorem qJ1_charAt (σ α : St) (i : Nat) (hi : i < 6) (j : Nat) (hj : j < sxN.getD i 0) : CF 2 mJ1_charAt_3b067 [vX (i + 7), vI (j : Int)] σ α (some (vI (wrd (7 * i + j)))) σ α := by
  have hn := sxN_r i hi
  have hr := wrd_r (7 * i + j) (by omega)
  refine CG.of [some (vX (i + 7)), some (vI (j : Int))] (by decide) (by simp [lvA]) rfl ?_
  refine v_iload_n iJ1_charAt_3b067_0 rfl ?_
  refine v_aload_x iJ1_charAt_3b067_1 rfl ?_
  refine v_lenX iJ1_charAt_3b067_2 hi rfl ?_
  refine c_S0 (Mc := mJ0_checkIndex) iJ1_charAt_3b067_3 lJ1_9 kJ0_checkIndex (qJ0_checkIndex _ _ (j : Int) _ (by omega)) (by decide) rfl rfl (Nat.le_of_ble_eq_true rfl) ?_
  refine v_aload_x iJ1_charAt_3b067_6 rfl ?_
  refine v_iload_n iJ1_charAt_3b067_7 rfl ?_
  refine v_byteX (z := wrd (7 * i + j)) iJ1_charAt_3b067_8 hi (by omega) (by rw [Int.toNat_natCast]; exact wrd_b i hi j (by omega) hj) ?_
  refine v_sipush iJ1_charAt_3b067_9 (by decide) ?_
  refine v_iand iJ1_charAt_3b067_12 (by omega) ?_
  rw [wrd_a i hi j (by omega)]
  refine v_i2c iJ1_charAt_3b067_13 (wrd_c i hi j (by omega)) ?_
  exact v_iretT iJ1_charAt_3b067_14 rfl (wrd_n i hi j (by omega)) ⟨Nat.le_refl _, Nat.le_refl _⟩ ⟨rfl, rfl, rfl, rfl⟩
set_option maxHeartbeats 4000000 in
set_option maxRecDepth 100000 in
theorem qJ0_charAt (σ α : St) (i : Nat) (hi : i < 6) (j : Nat) (hj : j < sxN.getD i 0) : CF 3 mJ0_charAt_5068e [vX (i + 1), vI (j : Int)] σ α (some (vI (wrd (7 * i + j)))) σ α := by
  have hn := sxN_r i hi
  have hr := wrd_r (7 * i + j) (by omega)
  refine CG.of [some (vX (i + 1)), some (vI (j : Int))] (by decide) (by simp [lvA]) rfl ?_
  refine v_aload_x iJ0_charAt_5068e_0 rfl ?_
  refine c_X1 (Mc := mJ0_isLatin1_aae02) iJ0_charAt_5068e_1 lJ0_492 kJ0_isLatin1_aae02 rfl (qJ0_isLatin1 _ _ i hi) (by decide) rfl hi rfl (Nat.le_of_ble_eq_true rfl) ?_
  refine v_if_eq (tgt := 16) iJ0_charAt_5068e_4 (by decide) (by omega) (fun h => (by exfalso; omega)) (fun h => ?_)
  refine v_aload_x iJ0_charAt_5068e_7 rfl ?_
  refine v_getV iJ0_charAt_5068e_8 rfl hi ?_
  refine v_iload_n iJ0_charAt_5068e_11 rfl ?_
  refine c_S1 (Mc := mJ1_charAt_3b067) iJ0_charAt_5068e_12 lJ0_495 kJ1_charAt_3b067 (qJ1_charAt _ _ i hi j hj) (by decide) rfl rfl (Nat.le_of_ble_eq_true rfl) ?_
  exact v_iretT iJ0_charAt_5068e_15 rfl (wrd_n i hi j (by omega)) ⟨Nat.le_refl _, Nat.le_refl _⟩ ⟨rfl, rfl, rfl, rfl⟩
/-- a word told by its first k letters -/
def wm (f : Nat → Int) (s e w : Nat) : Nat → Bool
  | 0 => decide (s < e ∧ e < s + 8)
  | k + 1 => wm f s e w k && decide (wrd (7 * w + k) = if s + k < e then f (s + k) else 0)
theorem wm_f {f : Nat → Int} {s e w : Nat} : ∀ {k j : Nat}, wm f s e w k = false → k ≤ j → wm f s e w j = false
  | k, 0, h, hj => by rw [show k = 0 by omega] at h; exact h
  | k, j + 1, h, hj => by
    by_cases hk : k = j + 1
    · rw [← hk]; exact h
    · unfold wm
      rw [wm_f h (by omega)]
      rfl
theorem wm_all {f : Nat → Int} {s e w : Nat} : ∀ {k : Nat}, wm f s e w k = true ↔ (s < e ∧ e < s + 8) ∧ ∀ j, j < k → wrd (7 * w + j) = if s + j < e then f (s + j) else 0
  | 0 => by
    unfold wm
    rw [decide_eq_true_eq]
    exact ⟨fun h => ⟨h, fun j hj => absurd hj (by omega)⟩, fun h => h.1⟩
  | k + 1 => by
    unfold wm
    rw [Bool.and_eq_true, wm_all (k := k), decide_eq_true_eq]
    constructor
    · rintro ⟨⟨h1, h2⟩, h3⟩
      refine ⟨h1, fun j hj => ?_⟩
      by_cases hk : j = k
      · rw [hk]; exact h3
      · exact h2 j (by omega)
    · rintro ⟨h1, h2⟩
      exact ⟨⟨h1, fun j hj => h2 j (by omega)⟩, h2 k (by omega)⟩
theorem wm_iff {f : Nat → Int} {s e w : Nat} (hw : w < 6) (hf : ∀ i, s ≤ i → i < e → f i ≠ 0) : wm f s e w 7 = true ↔ e = s + sxN.getD w 0 ∧ ∀ j, j < sxN.getD w 0 → f (s + j) = wrd (7 * w + j) := by
  have hn := sxN_r w hw
  rw [wm_all]
  constructor
  · rintro ⟨h1, h2⟩
    have he : e = s + sxN.getD w 0 := by
      by_cases ha : e < s + sxN.getD w 0
      · have := h2 (e - s) (by omega)
        rw [if_neg (by omega)] at this
        have := (wrd_z w hw (e - s) (by omega)).mp this
        omega
      · by_cases hb : s + sxN.getD w 0 < e
        · have h3 := h2 (sxN.getD w 0) (by omega)
          rw [if_pos hb, (wrd_z w hw (sxN.getD w 0) (by omega)).mpr (Nat.le_refl _)] at h3
          exact absurd h3.symm (hf _ (by omega) hb)
        · omega
    refine ⟨he, fun j hj => ?_⟩
    have := h2 j (by omega)
    rw [if_pos (by omega)] at this
    exact this.symm
  · rintro ⟨h1, h2⟩
    refine ⟨by omega, fun j hj => ?_⟩
    by_cases hj2 : j < sxN.getD w 0
    · rw [if_pos (by omega)]; exact (h2 j hj2).symm
    · rw [if_neg (by omega)]; exact (wrd_z w hw j hj).mpr (by omega)
theorem wm_kd {f : Nat → Int} {s e w : Nat} (hw : w < 6) (h : kdU (f s) ≠ 1) : wm f s e w 7 = false := by
  cases hb : wm f s e w 7 with
  | false => rfl
  | true =>
    obtain ⟨h1, h2⟩ := wm_all.mp hb
    have h3 := h2 0 (by omega)
    rw [if_pos (by omega)] at h3
    have h4 := wrd_0 w hw
    exact absurd (kdU_1.mpr (by rw [Nat.add_zero, Nat.add_zero] at h3; omega)) h
/-- the word at a token -/
def wdU (f : Nat → Int) (s e : Nat) : Int := fst1 (fun w => wm f s e w 7) 6 0
theorem wdU_r (f : Nat → Int) (s e : Nat) : -1 ≤ wdU f s e ∧ wdU f s e ≤ 5 := by
  have := fst1_r (fun w => wm f s e w 7) 6 0
  unfold wdU
  omega
theorem wdU_n {f : Nat → Int} {s e : Nat} (h : kdU (f s) ≠ 1) : wdU f s e = -1 := by
  unfold wdU
  simp only [fst1, wm_kd (show 0 < 6 by decide) h, wm_kd (show 1 < 6 by decide) h, wm_kd (show 2 < 6 by decide) h, wm_kd (show 3 < 6 by decide) h, wm_kd (show 4 < 6 by decide) h, wm_kd (show 5 < 6 by decide) h, Bool.false_eq_true, if_false]
/-- a clause at the token behind p, with n sections and m risers: (stands, place, a, b, c) and its word -/
def clU (f : Nat → Int) (l : Nat) (n m : Int) (p : Nat) : rzT :=
  if wdU f (tkS f l p) (tkE f l (tkS f l p)) = -1 ∨ (wdU f (tkS f l p) (tkE f l (tkS f l p)) = 1 ∧ n = 10) ∨ (wdU f (tkS f l p) (tkE f l (tkS f l p)) = 3 ∧ m = 6) then (false, tkS f l p, 0, 0, 0)
  else rsU f l n (wdU f (tkS f l p) (tkE f l (tkS f l p))) (tkE f l (tkS f l p))
