section COPY
variable {d : Nat} {M : Mi} {X : Cx} {σ α : St} {pc nx : Nat} {lv : List (Option AV)} {st : List AV}
theorem w_acn : Cond.native arraycopyName ∈ GW := gw_t 293 (by decide +kernel) rfl
theorem w_acs : Cond.static arraycopyName ∈ GW := gw_t 292 (by decide +kernel) rfl
theorem w_aci : Cond.initialized "java/lang/System" ∈ GW := gw_t 10 (by decide +kernel) rfl
theorem cpy_i32 (f g : Nat → Int) (a b n : Nat) : va_cpy (fun j => i32 (f j)) (fun j => i32 (g j)) a b n = fun j => i32 (va_cpy f g a b n j) := by
  funext j
  unfold va_cpy
  split <;> rfl
theorem v_copy {q0 q1 n0 n1 : Nat} {sp dp len : Int} {f g : Nat → Int} {idx : Nat} (hd : At M.2.1 pc (.invokestatic idx) 3 nx) (hlk : Cond.methodLink M.1.cls idx arraycopyName ∈ GW) (h0 : LA[q0]? = some (yA 0 n0)) (h1 : LA[q1]? = some (yA 0 n1)) (hb : 0 ≤ sp ∧ 0 ≤ dp ∧ 0 ≤ len ∧ sp + len ≤ n0 ∧ dp + len ≤ n1 ∧ (n0 : Int) ≤ 100000 ∧ (n1 : Int) ≤ 100000) (hd2 : 2 ≤ d) (hr : (st.map catA).sum ≤ 8) (hf : α q0 = f) (hg : α q1 = g)
    (kk : V d M X 0 0 LA σ (uA α q1 (va_cpy f g sp.toNat dp.toNat len.toNat)) nx lv st) : V d M X 0 0 LA σ α pc lv (vI len :: vI dp :: vR q1 :: vI sp :: vR q0 :: st) := by
  obtain ⟨hd, rfl⟩ := hd
  subst hf hg
  intro E ad0 ad p e s m below meth c H locs ls C c1 c2 hP hD hS hl
  have nl : ∀ z : Int, 0 ≤ z → z ≤ 100000 → ¬ i32 z < 0 := by
    intro z hz hz2 h
    have : i32 z < i32 0 := h
    rw [i32_lt ⟨⟨by omega, by omega⟩, ⟨by omega, by omega⟩⟩] at this
    omega
  have e1 : (i32 sp).toNatClampNeg = sp.toNat := i32_cl hb.1 (by omega)
  have e2 : (i32 dp).toNatClampNeg = dp.toNat := i32_cl hb.2.1 (by omega)
  have e3 : (i32 len).toNatClampNeg = len.toNat := i32_cl hb.2.2.1 (by omega)
  refine va_copyi (ty := .int) C.1 C.2.1 (C.ml.trans hl.1.symm) C.own (C.gw hlk) (C.gw w_acn) (C.gw w_acs) (C.gw w_aci) C.K hP hD hS q0 q1 0 0 (mW_get E.2.2.1 ad σ α h0) (mW_get E.2.2.1 ad σ α h1) rfl rfl rfl (nl sp hb.1 (by omega)) (nl dp hb.2.1 (by omega)) (nl len hb.2.2.1 (by omega)) (by rw [e1, e3]; omega) (by rw [e2, e3]; omega) (fun i _ => rfl) (show 1 ≤ d by omega) ?_ hd (fun H1 locs1 hP1 hD1 hS1 => ?_)
  · rw [catA_sum]
    have : nativeFrameWords "java/lang/System" "arraycopy" 5 ≤ 40 := by decide +kernel
    show _ ≤ 40 * d
    omega
  · have hset : (mW LA E.2.2.1 ad σ α).set q1 (ad q1, .inl (E.2.2.1 0, n1, .inl (va_cpy (fun j => i32 (α q0 j)) (fun j => i32 (α q1 j)) (i32 sp).toNatClampNeg (i32 dp).toNatClampNeg (i32 len).toNatClampNeg))) = mW LA E.2.2.1 ad σ (uA α q1 (va_cpy (α q0) (α q1) sp.toNat dp.toNat len.toNat)) := by
      refine mW_set h1 ?_ ce_uA
      rw [e1, e2, e3, cpy_i32]
      simp [ce, uA]
    rw [hset] at hP1 hD1
    exact kk E ad0 ad p e s m below meth c H1 locs1 ls C c1 c2 hP1 hD1 hS1 hl
theorem v_alen {q t N : Nat} (hd : At M.2.1 pc .arraylength 1 nx) (hL : LA[q]? = some (yA t N)) (ht : t = 0) (hN : N ≤ 2147483647) (kk : V d M X 0 0 LA σ α nx lv (vI (N : Int) :: st)) : V d M X 0 0 LA σ α pc lv (vR q :: st) := by
  obtain ⟨hd, rfl⟩ := hd
  subst ht
  intro E ad0 ad p e s m below meth c H locs ls C c1 c2 hP hD hS hl
  exact va_alen (v := i32 (N : Int)) (ty := .int) C.1 C.2.1 C.K hP q 0 (mW_get E.2.2.1 ad σ α hL) rfl (by rw [i32_nat]; rfl) hd (kk E ad0 ad p e s m below meth c H locs ls C c1 c2 hP hD hS hl)
end COPY
/-- the first n of f ahead of the rest of g -/
def cpA (f g : Nat → Int) (n : Nat) : Nat → Int := fun i => if i < n then f i else g i
theorem cpy0 (f g : Nat → Int) (n : Nat) : va_cpy f g 0 0 n = cpA f g n := by
  funext i
  unfold va_cpy cpA
  by_cases h : i < n <;> simp [h]
theorem cpA_lt {f g : Nat → Int} {n i : Nat} (h : i < n) : cpA f g n i = f i := by simp [cpA, h]
