theorem s_l : ∀ n, n < 32 → ((nI n &&& 31).toBitVec.smod 32).toNat = n := by decide +kernel
theorem s_u : ∀ n, n < 32 → (((nI n).toUInt32 &&& Int32.toUInt32 31).toBitVec % 32).toNat = n := by decide +kernel
theorem nx_and (a b : Nat) : nI a &&& nI b = nI (a &&& b) := by
  apply Int32.toBitVec_inj.1
  show BitVec.ofNat 32 a &&& BitVec.ofNat 32 b = BitVec.ofNat 32 (a &&& b)
  apply BitVec.eq_of_getLsbD_eq
  intro i hi
  simp [hi]
theorem nx_or (a b : Nat) : nI a ||| nI b = nI (a ||| b) := by
  apply Int32.toBitVec_inj.1
  show BitVec.ofNat 32 a ||| BitVec.ofNat 32 b = BitVec.ofNat 32 (a ||| b)
  apply BitVec.eq_of_getLsbD_eq
  intro i hi
  simp [hi]
theorem nx_not (b : Nat) : nI b ^^^ (-1) = i32 (-(b : Int) - 1) := by
  have h : i32 (-(b : Int) - 1) = -(nI b) - 1 := by
    rw [← i32_sub, show i32 (-(b : Int)) = -(i32 b) from Int32.ofInt_neg b, i32_nat]
    rfl
  rw [h]
  apply Int32.toBitVec_inj.1
  show BitVec.ofNat 32 b ^^^ BitVec.allOnes 32 = -(BitVec.ofNat 32 b) - 1#32
  rw [BitVec.xor_allOnes, BitVec.neg_eq_not_add, BitVec.add_sub_cancel]
theorem nx_andn (a b : Nat) : nI a &&& i32 (-(b : Int) - 1) = nI (a ^^^ (a &&& b)) := by
  rw [← nx_not]
  apply Int32.toBitVec_inj.1
  show BitVec.ofNat 32 a &&& (BitVec.ofNat 32 b ^^^ BitVec.allOnes 32) = BitVec.ofNat 32 (a ^^^ (a &&& b))
  apply BitVec.eq_of_getLsbD_eq
  intro i hi
  rw [BitVec.getLsbD_and, BitVec.getLsbD_xor, BitVec.getLsbD_allOnes, BitVec.getLsbD_ofNat, BitVec.getLsbD_ofNat, BitVec.getLsbD_ofNat, Nat.testBit_xor, Nat.testBit_and]
  simp only [hi, decide_true, Bool.true_and]
  cases a.testBit i <;> cases b.testBit i <;> rfl
theorem i32_nat' {x : Int} (h : 0 ≤ x) : i32 x = nI x.toNat := by
  obtain ⟨a, rfl⟩ := Int.eq_ofNat_of_zero_le h
  exact i32_nat a
section MORE
variable {d : Nat} {M : Mi} {X : Cx} {k n : Nat} {L : List Ly} {σ α : St} {pc nx : Nat} {lv : List (Option AV)} {st : List AV}
theorem v_ior {x y : Int} (hd : At M.2.1 pc .ior 1 nx) (hx : 0 ≤ x ∧ 0 ≤ y) (kk : V d M X k n L σ α nx lv (vI ((x.toNat ||| y.toNat : Nat) : Int) :: st)) : V d M X k n L σ α pc lv (vI y :: vI x :: st) := by
  obtain ⟨hd, rfl⟩ := hd
  intro E ad0 ad p e s m below meth c H locs ls C h1 h2 hP hD hS hl
  refine lv_ior (x := i32 x) (y := i32 y) C.1 C.2.1 hd ?_
  rw [i32_nat' hx.1, i32_nat' hx.2, nx_or, ← i32_nat]
  exact kk E ad0 ad p e s m below meth c H locs ls C h1 h2 hP hD hS hl
theorem v_iand {x y : Int} (hd : At M.2.1 pc .iand 1 nx) (hx : 0 ≤ x ∧ 0 ≤ y) (kk : V d M X k n L σ α nx lv (vI ((x.toNat &&& y.toNat : Nat) : Int) :: st)) : V d M X k n L σ α pc lv (vI y :: vI x :: st) := by
  obtain ⟨hd, rfl⟩ := hd
  intro E ad0 ad p e s m below meth c H locs ls C h1 h2 hP hD hS hl
  refine lv_iand (x := i32 x) (y := i32 y) C.1 C.2.1 hd ?_
  rw [i32_nat' hx.1, i32_nat' hx.2, nx_and, ← i32_nat]
  exact kk E ad0 ad p e s m below meth c H locs ls C h1 h2 hP hD hS hl
theorem v_iand1 {x : Int} (hd : At M.2.1 pc .iand 1 nx) (hx : 0 ≤ x) (kk : V d M X k n L σ α nx lv (vI (x % 2) :: st)) : V d M X k n L σ α pc lv (vI 1 :: vI x :: st) := by
  refine v_iand hd ⟨hx, by omega⟩ ?_
  have : ((x.toNat &&& (1 : Int).toNat : Nat) : Int) = x % 2 := by
    show ((x.toNat &&& 1 : Nat) : Int) = _
    rw [Nat.and_one_is_mod]
    omega
  rw [this]
  exact kk
theorem v_inot {x : Int} (hd : At M.2.1 pc .ixor 1 nx) (hx : 0 ≤ x) (kk : V d M X k n L σ α nx lv (vI (-x - 1) :: st)) : V d M X k n L σ α pc lv (vI (-1) :: vI x :: st) := by
  obtain ⟨hd, rfl⟩ := hd
  intro E ad0 ad p e s m below meth c H locs ls C h1 h2 hP hD hS hl
  refine lv_ixor (x := i32 x) (y := i32 (-1)) C.1 C.2.1 hd ?_
  have : i32 x ^^^ i32 (-1) = i32 (-x - 1) := by
    rw [i32_nat' hx]
    show nI x.toNat ^^^ (-1) = _
    rw [nx_not]
    congr 1
    omega
  rw [this]
  exact kk E ad0 ad p e s m below meth c H locs ls C h1 h2 hP hD hS hl
theorem v_iandn {x y : Int} (hd : At M.2.1 pc .iand 1 nx) (hx : 0 ≤ x ∧ 0 ≤ y) (kk : V d M X k n L σ α nx lv (vI ((x.toNat ^^^ (x.toNat &&& y.toNat) : Nat) : Int) :: st)) : V d M X k n L σ α pc lv (vI (-y - 1) :: vI x :: st) := by
  obtain ⟨hd, rfl⟩ := hd
  intro E ad0 ad p e s m below meth c H locs ls C h1 h2 hP hD hS hl
  refine lv_iand (x := i32 x) (y := i32 (-y - 1)) C.1 C.2.1 hd ?_
  have : i32 x &&& i32 (-y - 1) = i32 ((x.toNat ^^^ (x.toNat &&& y.toNat) : Nat) : Int) := by
    rw [i32_nat' hx.1, show -y - 1 = -((y.toNat : Nat) : Int) - 1 by omega, nx_andn, i32_nat]
  rw [this]
  exact kk E ad0 ad p e s m below meth c H locs ls C h1 h2 hP hD hS hl
theorem v_ishl1 {y : Int} (hd : At M.2.1 pc .ishl 1 nx) (hy : 0 ≤ y ∧ y < 31) (kk : V d M X k n L σ α nx lv (vI ((2 ^ y.toNat : Nat) : Int) :: st)) : V d M X k n L σ α pc lv (vI y :: vI 1 :: st) := by
  obtain ⟨hd, rfl⟩ := hd
  intro E ad0 ad p e s m below meth c H locs ls C h1 h2 hP hD hS hl
  refine lv_ishl (x := i32 1) (y := i32 y) C.1 C.2.1 hd ?_
  have : i32 1 <<< (i32 y &&& 31) = i32 ((2 ^ y.toNat : Nat) : Int) := by
    rw [i32_nat' hy.1, i32_nat, show i32 1 = nI 1 from rfl, pk_shlN _ y.toNat (s_l _ (by omega))]
    · rw [Nat.one_mul]
    · rw [Nat.one_mul]; exact Nat.pow_lt_pow_right (by decide) (by omega)
  rw [this]
  exact kk E ad0 ad p e s m below meth c H locs ls C h1 h2 hP hD hS hl
theorem toNat_div (x : Int) (hx : 0 ≤ x) (j : Nat) : ((x.toNat / 2 ^ j : Nat) : Int) = x / 2 ^ j := by
  obtain ⟨a, rfl⟩ := Int.eq_ofNat_of_zero_le hx
  simp
theorem v_ishr {x y : Int} (hd : At M.2.1 pc .ishr 1 nx) (hx : 0 ≤ x ∧ x ≤ 2147483647) (hy : 0 ≤ y ∧ y < 32) (kk : V d M X k n L σ α nx lv (vI (x / 2 ^ y.toNat) :: st)) : V d M X k n L σ α pc lv (vI y :: vI x :: st) := by
  obtain ⟨hd, rfl⟩ := hd
  intro E ad0 ad p e s m below meth c H locs ls C h1 h2 hP hD hS hl
  refine lv_ishr (x := i32 x) (y := i32 y) C.1 C.2.1 hd ?_
  have : i32 x >>> (i32 y &&& 31) = i32 (x / 2 ^ y.toNat) := by
    rw [i32_nat' hy.1, i32_nat' hx.1, pk_shrN (by omega) _ y.toNat (s_l _ (by omega)), ← i32_nat, toNat_div x hx.1]
  rw [this]
  exact kk E ad0 ad p e s m below meth c H locs ls C h1 h2 hP hD hS hl
theorem v_iushr {x y : Int} (hd : At M.2.1 pc .iushr 1 nx) (hx : 0 ≤ x ∧ x ≤ 2147483647) (hy : 0 ≤ y ∧ y < 32) (kk : V d M X k n L σ α nx lv (vI (x / 2 ^ y.toNat) :: st)) : V d M X k n L σ α pc lv (vI y :: vI x :: st) := by
  obtain ⟨hd, rfl⟩ := hd
  intro E ad0 ad p e s m below meth c H locs ls C h1 h2 hP hD hS hl
  have : ((i32 x).toUInt32 >>> ((i32 y).toUInt32 &&& Int32.toUInt32 31)).toInt32 = i32 (x / 2 ^ y.toNat) := by
    rw [i32_nat' hy.1, i32_nat' hx.1, pk_ushrN (by omega) _ y.toNat (s_u _ (by omega)), ← i32_nat, toNat_div x hx.1]
  exact lv_iushr (x := i32 x) (y := i32 y) C.1 C.2.1 hd this (kk E ad0 ad p e s m below meth c H locs ls C h1 h2 hP hD hS hl)
theorem v_idiv {x y : Int} (hd : At M.2.1 pc .idiv 1 nx) (hx : 0 ≤ x ∧ x ≤ 2147483647) (hy : 0 < y ∧ y ≤ 2147483647) (kk : V d M X k n L σ α nx lv (vI (x / y) :: st)) : V d M X k n L σ α pc lv (vI y :: vI x :: st) := by
  obtain ⟨hd, rfl⟩ := hd
  obtain ⟨a, rfl⟩ := Int.eq_ofNat_of_zero_le hx.1
  obtain ⟨b, rfl⟩ := Int.eq_ofNat_of_zero_le (Int.le_of_lt hy.1)
  intro E ad0 ad p e s m below meth c H locs ls C h1 h2 hP hD hS hl
  have hne : ¬ i32 (b : Int) = 0 := by
    show ¬ i32 (b : Int) = i32 0
    rw [i32_eq ⟨⟨by omega, by omega⟩, ⟨by omega, by omega⟩⟩]
    omega
  refine lv_idiv (x := i32 a) (y := i32 b) C.1 C.2.1 hd hne ?_
  rw [i32_nat, i32_nat, pk_div (by omega) (by omega) (by omega), ← i32_nat, Int.natCast_ediv]
  exact kk E ad0 ad p e s m below meth c H locs ls C h1 h2 hP hD hS hl
theorem v_irem {x y : Int} (hd : At M.2.1 pc .irem 1 nx) (hx : 0 ≤ x ∧ x ≤ 2147483647) (hy : 0 < y ∧ y ≤ 2147483647) (kk : V d M X k n L σ α nx lv (vI (x % y) :: st)) : V d M X k n L σ α pc lv (vI y :: vI x :: st) := by
  obtain ⟨hd, rfl⟩ := hd
  obtain ⟨a, rfl⟩ := Int.eq_ofNat_of_zero_le hx.1
  obtain ⟨b, rfl⟩ := Int.eq_ofNat_of_zero_le (Int.le_of_lt hy.1)
  intro E ad0 ad p e s m below meth c H locs ls C h1 h2 hP hD hS hl
  have hne : ¬ i32 (b : Int) = 0 := by
    show ¬ i32 (b : Int) = i32 0
    rw [i32_eq ⟨⟨by omega, by omega⟩, ⟨by omega, by omega⟩⟩]
    omega
  refine lv_irem (x := i32 a) (y := i32 b) C.1 C.2.1 hd hne ?_
  rw [i32_nat, i32_nat, pk_rem (by omega) (by omega) (by omega), ← i32_nat, Int.natCast_emod]
  exact kk E ad0 ad p e s m below meth c H locs ls C h1 h2 hP hD hS hl
theorem v_tabIn {x dflt lo hi off : Int} {offs : Array Int} {len tgt : Nat} (hd : At M.2.1 pc (.tableswitch dflt lo hi offs) len nx) (hx : InR x) (h : lo ≤ x ∧ x ≤ hi) (ho : offs[(x - lo).toNat]? = some off) (ht : (pc : Int) + off = (tgt : Int)) (kk : V d M X k n L σ α tgt lv st) : V d M X k n L σ α pc lv (vI x :: st) := by
  obtain ⟨hd, rfl⟩ := hd
  intro E ad0 ad p e s m below meth c H locs ls C h1 h2 hP hD hS hl
  exact lv_tableIn (x := i32 x) C.1 C.2.1 hd (by rw [i32_t hx]; omega) (by rw [i32_t hx]; omega) (by rw [i32_t hx]; exact ho) ht (kk E ad0 ad p e s m below meth c H locs ls C h1 h2 hP hD hS hl)
theorem v_tabOut {x dflt lo hi : Int} {offs : Array Int} {len tgt : Nat} (hd : At M.2.1 pc (.tableswitch dflt lo hi offs) len nx) (hx : InR x) (h : x < lo ∨ hi < x) (ht : (pc : Int) + dflt = (tgt : Int)) (kk : V d M X k n L σ α tgt lv st) : V d M X k n L σ α pc lv (vI x :: st) := by
  obtain ⟨hd, rfl⟩ := hd
  intro E ad0 ad p e s m below meth c H locs ls C h1 h2 hP hD hS hl
  exact lv_tableOut (x := i32 x) C.1 C.2.1 hd (by rw [i32_t hx]; exact h) ht (kk E ad0 ad p e s m below meth c H locs ls C h1 h2 hP hD hS hl)
theorem v_lookup {x dflt off : Int} {ps : Array (Int × Int)} {len tgt : Nat} (hd : At M.2.1 pc (.lookupswitch dflt ps) len nx) (hp : (ps.toList.zip (ps.toList.drop 1)).all (fun (a, next) => a.1 < next.1) = true) (hx : InR x) (ho : Op.lookupswitch.offset ps.toList dflt x = off) (ht : (pc : Int) + off = (tgt : Int)) (kk : V d M X k n L σ α tgt lv st) : V d M X k n L σ α pc lv (vI x :: st) := by
  obtain ⟨hd, rfl⟩ := hd
  intro E ad0 ad p e s m below meth c H locs ls C h1 h2 hP hD hS hl
  exact lv_lookup (x := i32 x) C.1 C.2.1 hd hp (by rw [i32_t hx]; exact ho) ht (kk E ad0 ad p e s m below meth c H locs ls C h1 h2 hP hD hS hl)
theorem i64_t {z : Int} (h : InR z) : (i64 z).toInt = z := Int64.toInt_ofInt_of_le (by have := h.1; omega) (by have := h.2; omega)
theorem v_i2l {x : Int} (hd : At M.2.1 pc .i2l 1 nx) (hx : InR x) (kk : V d M X k n L σ α nx lv (vL x :: st)) : V d M X k n L σ α pc lv (vI x :: st) := by
  obtain ⟨hd, rfl⟩ := hd
  intro E ad0 ad p e s m below meth c H locs ls C h1 h2 hP hD hS hl
  have : (i32 x).toInt64 = i64 x := Int64.toInt_inj.mp (by rw [Int32.toInt_toInt64, i32_t hx, i64_t hx])
  exact lv_i2l (x := i32 x) C.1 C.2.1 hd this (kk E ad0 ad p e s m below meth c H locs ls C h1 h2 hP hD hS hl)
theorem v_lconst {i : Fin 2} {z : Int} (hd : At M.2.1 pc (.lconst i) 1 nx) (hz : (i : Int) = z) (kk : V d M X k n L σ α nx lv (vL z :: st)) : V d M X k n L σ α pc lv st := by
  obtain ⟨hd, rfl⟩ := hd
  subst hz
  intro E ad0 ad p e s m below meth c H locs ls C h1 h2 hP hD hS hl
  exact lv_lconst C.1 C.2.1 hd (by match i with | 0 => rfl | 1 => rfl) (kk E ad0 ad p e s m below meth c H locs ls C h1 h2 hP hD hS hl)
theorem v_ldc2 {idx : Nat} {z : Int} (hd : At M.2.1 pc (.ldc2_w idx) 3 nx) (hg : Cond.constantLong M.1.cls idx (i64 z) ∈ GW) (kk : V d M X k n L σ α nx lv (vL z :: st)) : V d M X k n L σ α pc lv st := by
  obtain ⟨hd, rfl⟩ := hd
  intro E ad0 ad p e s m below meth c H locs ls C h1 h2 hP hD hS hl
  exact lv_ldc2 C.1 C.2.1 C.own (C.gw hg) hd (kk E ad0 ad p e s m below meth c H locs ls C h1 h2 hP hD hS hl)
theorem v_ldcw {idx : Nat} {z : Int} (hd : At M.2.1 pc (.ldc_w idx) 3 nx) (hg : Cond.constant M.1.cls idx (i32 z) ∈ GW) (kk : V d M X k n L σ α nx lv (vI z :: st)) : V d M X k n L σ α pc lv st := by
  obtain ⟨hd, rfl⟩ := hd
  intro E ad0 ad p e s m below meth c H locs ls C h1 h2 hP hD hS hl
  exact lv_ldcw C.1 C.2.1 C.own (C.gw hg) hd (kk E ad0 ad p e s m below meth c H locs ls C h1 h2 hP hD hS hl)
def cmp3 (x y : Int) : Int := if x > y then 1 else if x = y then 0 else -1
theorem cmp3_lt {x y : Int} : cmp3 x y < 0 ↔ x < y := by unfold cmp3; split; omega; split <;> omega
theorem cmp3_gt {x y : Int} : 0 < cmp3 x y ↔ y < x := by unfold cmp3; split; omega; split <;> omega
theorem cmp3_r (x y : Int) : InR (cmp3 x y) := by unfold cmp3; split; decide; split <;> decide
theorem v_lcmp {x y : Int} (hd : At M.2.1 pc .lcmp 1 nx) (hx : InR x ∧ InR y) (kk : V d M X k n L σ α nx lv (vI (cmp3 x y) :: st)) : V d M X k n L σ α pc lv (vL y :: vL x :: st) := by
  obtain ⟨hd, rfl⟩ := hd
  intro E ad0 ad p e s m below meth c H locs ls C h1 h2 hP hD hS hl
  refine W.lcmp (x := i64 x) (y := i64 y) C.1 C.2.1 hd ?_
  have : lg_cmp (i64 x) (i64 y) = i32 (cmp3 x y) := by
    unfold lg_cmp cmp3
    have e1 : (i64 x > i64 y) ↔ x > y := by
      show i64 y < i64 x ↔ _
      rw [Int64.lt_iff_toInt_lt, i64_t hx.1, i64_t hx.2]
    have e2 : (i64 x = i64 y) ↔ x = y := by
      rw [← Int64.toInt_inj, i64_t hx.1, i64_t hx.2]
    by_cases h1 : x > y
    · rw [if_pos (e1.mpr h1), if_pos h1]; rfl
    · rw [if_neg (fun h => h1 (e1.mp h)), if_neg h1]
      by_cases h2 : x = y
      · rw [if_pos (e2.mpr h2), if_pos h2]; rfl
      · rw [if_neg (fun h => h2 (e2.mp h)), if_neg h2]; rfl
  rw [this]
  exact kk E ad0 ad p e s m below meth c H locs ls C h1 h2 hP hD hS hl
end MORE
