abbrev InR (z : Int) : Prop := -2147483648 ≤ z ∧ z ≤ 2147483647
theorem i32_t {z : Int} (h : InR z) : (i32 z).toInt = z := Int32.toInt_ofInt_of_le (by have := h.1; omega) (by have := h.2; omega)
theorem i32_add (x y : Int) : i32 x + i32 y = i32 (x + y) := (Int32.ofInt_add x y).symm
theorem i32_sub (x y : Int) : i32 x - i32 y = i32 (x - y) := (Int32.ofInt_sub x y).symm
theorem i32_mul (x y : Int) : i32 x * i32 y = i32 (x * y) := (Int32.ofInt_mul x y).symm
theorem i32_lt {x y : Int} (h : InR x ∧ InR y) : i32 x < i32 y ↔ x < y := by rw [Int32.lt_iff_toInt_lt, i32_t h.1, i32_t h.2]
theorem i32_le {x y : Int} (h : InR x ∧ InR y) : i32 x ≤ i32 y ↔ x ≤ y := by rw [Int32.le_iff_toInt_le, i32_t h.1, i32_t h.2]
theorem i32_eq {x y : Int} (h : InR x ∧ InR y) : i32 x = i32 y ↔ x = y := by
  constructor
  · intro e
    have := congrArg Int32.toInt e
    rwa [i32_t h.1, i32_t h.2] at this
  · intro e; rw [e]
theorem i32_0 : i32 0 = 0 := rfl
theorem i32_cl {z : Int} (h0 : 0 ≤ z) (h1 : z ≤ 2147483647) : (i32 z).toNatClampNeg = z.toNat := by
  have h := i32_t (z := z) ⟨by omega, h1⟩
  show (i32 z).toInt.toNat = z.toNat
  rw [h]
theorem i32_in {z : Int} {n : Nat} (h0 : 0 ≤ z) (h1 : z < n) (hn : n ≤ 2147483647) : vp_in (i32 z) n := by
  rw [vp_in_iff, i32_t ⟨by omega, by omega⟩]
  exact ⟨h0, h1⟩
theorem i32_nat (n : Nat) : i32 (n : Int) = nI n := Int32.ofInt_eq_ofNat
section ROWS
variable {d : Nat} {M : Mi} {X : Cx} {k n : Nat} {L : List Ly} {σ α : St} {pc nx : Nat} {lv : List (Option AV)} {st : List AV}
theorem V.lvw {lv' : List (Option AV)} (h : ∀ (i : Nat) (v : AV), lv'[i]? = some (some v) → lv[i]? = some (some v)) (kk : V d M X k n L σ α pc lv' st) : V d M X k n L σ α pc lv st := by
  intro E ad0 ad p e s m below meth c H locs ls C h1 h2 hP hD hS hl
  exact kk E ad0 ad p e s m below meth c H locs ls C h1 h2 hP hD hS ⟨hl.1, hl.2.1, fun i v hi => hl.2.2 i v (h i v hi)⟩
theorem v_iconst {z : Int} (hd : At M.2.1 pc (.iconst z) 1 nx) (kk : V d M X k n L σ α nx lv (vI z :: st)) : V d M X k n L σ α pc lv st := by
  obtain ⟨hd, rfl⟩ := hd
  intro E ad0 ad p e s m below meth c H locs ls C h1 h2 hP hD hS hl
  exact lv_iconst C.1 C.2.1 hd rfl (kk E ad0 ad p e s m below meth c H locs ls C h1 h2 hP hD hS hl)
theorem v_bipush {z : Int} (hd : At M.2.1 pc (.bipush z) 2 nx) (hz : (Int8.ofInt z).toInt32 = i32 z) (kk : V d M X k n L σ α nx lv (vI z :: st)) : V d M X k n L σ α pc lv st := by
  obtain ⟨hd, rfl⟩ := hd
  intro E ad0 ad p e s m below meth c H locs ls C h1 h2 hP hD hS hl
  exact lv_bipush C.1 C.2.1 hd hz (kk E ad0 ad p e s m below meth c H locs ls C h1 h2 hP hD hS hl)
theorem v_sipush {z : Int} (hd : At M.2.1 pc (.sipush z) 3 nx) (hz : (Int16.ofInt z).toInt32 = i32 z) (kk : V d M X k n L σ α nx lv (vI z :: st)) : V d M X k n L σ α pc lv st := by
  obtain ⟨hd, rfl⟩ := hd
  intro E ad0 ad p e s m below meth c H locs ls C h1 h2 hP hD hS hl
  exact lv_sipush C.1 C.2.1 hd hz (kk E ad0 ad p e s m below meth c H locs ls C h1 h2 hP hD hS hl)
theorem v_iload_n {i : Fin 4} {z : Int} (hd : At M.2.1 pc (.iload_n i) 1 nx) (hi : lv[(i : Nat)]? = some (some (vI z))) (kk : V d M X k n L σ α nx lv (vI z :: st)) : V d M X k n L σ α pc lv st := by
  obtain ⟨hd, rfl⟩ := hd
  intro E ad0 ad p e s m below meth c H locs ls C h1 h2 hP hD hS hl
  exact lv_iload_n C.1 C.2.1 hd rfl (hl.2.2 _ _ hi) (kk E ad0 ad p e s m below meth c H locs ls C h1 h2 hP hD hS hl)
theorem v_iload {i : Nat} {z : Int} (hd : At M.2.1 pc (.iload i) 2 nx) (hi : lv[i]? = some (some (vI z))) (kk : V d M X k n L σ α nx lv (vI z :: st)) : V d M X k n L σ α pc lv st := by
  obtain ⟨hd, rfl⟩ := hd
  intro E ad0 ad p e s m below meth c H locs ls C h1 h2 hP hD hS hl
  exact lv_iload C.1 C.2.1 hd (hl.2.2 _ _ hi) (kk E ad0 ad p e s m below meth c H locs ls C h1 h2 hP hD hS hl)
theorem v_lload_n {i : Fin 4} {z : Int} (hd : At M.2.1 pc (.lload_n i) 1 nx) (hi : lv[(i : Nat)]? = some (some (vL z))) (kk : V d M X k n L σ α nx lv (vL z :: st)) : V d M X k n L σ α pc lv st := by
  obtain ⟨hd, rfl⟩ := hd
  intro E ad0 ad p e s m below meth c H locs ls C h1 h2 hP hD hS hl
  exact lv_lload_n C.1 C.2.1 hd rfl (hl.2.2 _ _ hi) (kk E ad0 ad p e s m below meth c H locs ls C h1 h2 hP hD hS hl)
theorem v_lload {i : Nat} {z : Int} (hd : At M.2.1 pc (.lload i) 2 nx) (hi : lv[i]? = some (some (vL z))) (kk : V d M X k n L σ α nx lv (vL z :: st)) : V d M X k n L σ α pc lv st := by
  obtain ⟨hd, rfl⟩ := hd
  intro E ad0 ad p e s m below meth c H locs ls C h1 h2 hP hD hS hl
  exact lv_lload C.1 C.2.1 hd (hl.2.2 _ _ hi) (kk E ad0 ad p e s m below meth c H locs ls C h1 h2 hP hD hS hl)
theorem v_aload_n {i : Fin 4} {q : Nat} (hd : At M.2.1 pc (.aload_n i) 1 nx) (hi : lv[(i : Nat)]? = some (some (vR q))) (kk : V d M X k n L σ α nx lv (vR q :: st)) : V d M X k n L σ α pc lv st := by
  obtain ⟨hd, rfl⟩ := hd
  intro E ad0 ad p e s m below meth c H locs ls C h1 h2 hP hD hS hl
  exact lv_aload_n C.1 C.2.1 hd rfl (hl.2.2 _ _ hi) (kk E ad0 ad p e s m below meth c H locs ls C h1 h2 hP hD hS hl)
theorem cv_cat (E : Ev) (ad : Nat → Nat) (v : AV) (hv : ∀ z, v ≠ vL z) : (cv E ad v).category = 1 := by
  match v with
  | .inl z => rfl
  | .inr (.inl q) => rfl
  | .inr (.inr (.inl z)) => exact absurd rfl (hv z)
  | .inr (.inr (.inr 0)) => rfl
  | .inr (.inr (.inr (i + 1))) =>
    show (if i < 6 then Value.ref (E.2.2.2.1 i) else Value.ref (E.2.2.2.2 (i - 6))).category = 1
    split <;> rfl
/-- what a store leaves of the locals: no long stands there -/
theorem LV.store {E : Ev} {ad : Nat → Nat} {nL : Nat} {ls : Array Slot} {i : Nat} {v : AV} (h : LV E ad nL lv ls) (hn : lv.all (fun o => match o with | some (.inr (.inr (.inl _))) => false | _ => true) = true) (hl : lv.length ≤ nL) (ls' : Array Slot) (l0 : List (Nat × Value)) (hl0 : ∀ j w, lv[j]? = some (some w) → (j, cv E ad w) ∈ l0)
    (h' : lv_has ls' nL ((i, cv E ad v) :: l0.filter (fun q => !(q.1 == i) && !(q.1 + 1 == i && q.2.category == 2)))) : LV E ad nL (lv.set i (some v)) ls' := by
  refine ⟨h'.1, h'.2.1, fun j w hj => ?_⟩
  rw [List.getElem?_set] at hj
  by_cases hij : i = j
  · subst hij
    rw [if_pos rfl] at hj
    split at hj
    · cases hj; exact h'.2.2 (i, cv E ad v) List.mem_cons_self
    · cases hj
  · rw [if_neg hij] at hj
    refine h'.2.2 (j, cv E ad w) (List.mem_cons_of_mem _ (List.mem_filter.mpr ⟨hl0 j w hj, ?_⟩))
    have hw : (cv E ad w).category = 1 := by
      apply cv_cat
      intro z hz
      subst hz
      have := List.all_eq_true.mp hn _ (List.mem_of_getElem? hj)
      simp at this
    simp [hw, Ne.symm hij]
def lvl (E : Ev) (ad : Nat → Nat) (lv : List (Option AV)) : List (Nat × Value) := (List.range lv.length).filterMap (fun j => (lv.getD j none).map (fun w => (j, cv E ad w)))
theorem lvl_in {E : Ev} {ad : Nat → Nat} : ∀ j w, lv[j]? = some (some w) → (j, cv E ad w) ∈ lvl E ad lv := by
  intro j w h
  have hj : j < lv.length := (List.getElem?_eq_some_iff.mp h).1
  exact List.mem_filterMap.mpr ⟨j, List.mem_range.mpr hj, by simp [List.getD_eq_getElem?_getD, h]⟩
theorem LV.has {E : Ev} {ad : Nat → Nat} {nL : Nat} {ls : Array Slot} (h : LV E ad nL lv ls) : lv_has ls nL (lvl E ad lv) := by
  refine ⟨h.1, h.2.1, fun q hq => ?_⟩
  obtain ⟨j, hj, he⟩ := List.mem_filterMap.mp hq
  have hj2 := List.mem_range.mp hj
  cases hw : lv.getD j none with
  | none => rw [hw] at he; cases he
  | some w =>
    rw [hw] at he
    cases he
    refine h.2.2 j w ?_
    rw [List.getD_eq_getElem?_getD] at hw
    rw [List.getElem?_eq_getElem hj2] at hw ⊢
    simpa using hw
abbrev noL (lv : List (Option AV)) : Prop := lv.all (fun o => match o with | some (.inr (.inr (.inl _))) => false | _ => true) = true
theorem v_istore_n {i : Fin 4} {z : Int} {lv' : List (Option AV)} (hd : At M.2.1 pc (.istore_n i) 1 nx) (hn : noL lv ∧ lv.length = M.2.2.1 ∧ (i : Nat) < M.2.2.1) (hl' : lv.set i (some (vI z)) = lv') (kk : V d M X k n L σ α nx lv' st) : V d M X k n L σ α pc lv (vI z :: st) := by
  obtain ⟨hd, rfl⟩ := hd
  subst hl'
  intro E ad0 ad p e s m below meth c H locs ls C h1 h2 hP hD hS hl
  exact lv_istore_n C.1 C.2.1 hd rfl hl.has hn.2.2 rfl fun ls' h' => kk E ad0 ad p e s m below meth c H locs ls' C h1 h2 hP hD hS (LV.store (v := vI z) hl hn.1 (Nat.le_of_eq hn.2.1) ls' _ lvl_in h')
theorem v_istore {i : Nat} {z : Int} {lv' : List (Option AV)} (hd : At M.2.1 pc (.istore i) 2 nx) (hn : noL lv ∧ lv.length = M.2.2.1 ∧ i < M.2.2.1) (hl' : lv.set i (some (vI z)) = lv') (kk : V d M X k n L σ α nx lv' st) : V d M X k n L σ α pc lv (vI z :: st) := by
  obtain ⟨hd, rfl⟩ := hd
  subst hl'
  intro E ad0 ad p e s m below meth c H locs ls C h1 h2 hP hD hS hl
  exact lv_istore C.1 C.2.1 hd hl.has hn.2.2 rfl fun ls' h' => kk E ad0 ad p e s m below meth c H locs ls' C h1 h2 hP hD hS (LV.store (v := vI z) hl hn.1 (Nat.le_of_eq hn.2.1) ls' _ lvl_in h')
theorem v_astore_n {i : Fin 4} {q : Nat} {lv' : List (Option AV)} (hd : At M.2.1 pc (.astore_n i) 1 nx) (hn : noL lv ∧ lv.length = M.2.2.1 ∧ (i : Nat) < M.2.2.1) (hl' : lv.set i (some (vR q)) = lv') (kk : V d M X k n L σ α nx lv' st) : V d M X k n L σ α pc lv (vR q :: st) := by
  obtain ⟨hd, rfl⟩ := hd
  subst hl'
  intro E ad0 ad p e s m below meth c H locs ls C h1 h2 hP hD hS hl
  exact lv_astore_n C.1 C.2.1 hd rfl hl.has hn.2.2 rfl fun ls' h' => kk E ad0 ad p e s m below meth c H locs ls' C h1 h2 hP hD hS (LV.store (v := vR q) hl hn.1 (Nat.le_of_eq hn.2.1) ls' _ lvl_in h')
theorem v_iinc {i : Nat} {x z : Int} {lv' : List (Option AV)} (hd : At M.2.1 pc (.iinc i z) 3 nx) (hn : noL lv ∧ lv.length = M.2.2.1 ∧ i < M.2.2.1) (hi : lv[i]? = some (some (vI x))) (hl' : lv.set i (some (vI (x + z))) = lv') (kk : V d M X k n L σ α nx lv' st) : V d M X k n L σ α pc lv st := by
  obtain ⟨hd, rfl⟩ := hd
  subst hl'
  intro E ad0 ad p e s m below meth c H locs ls C h1 h2 hP hD hS hl
  obtain ⟨j, hj⟩ := List.getElem?_of_mem (lvl_in (E := E) (ad := ad) _ _ hi)
  exact lv_iinc (v := i32 (x + z)) C.1 C.2.1 hd hl.has hj (i32_add x z) hn.2.2 rfl fun ls' h' => kk E ad0 ad p e s m below meth c H locs ls' C h1 h2 hP hD hS (LV.store (v := vI (x + z)) hl hn.1 (Nat.le_of_eq hn.2.1) ls' _ lvl_in h')
theorem v_iadd {x y : Int} (hd : At M.2.1 pc .iadd 1 nx) (kk : V d M X k n L σ α nx lv (vI (x + y) :: st)) : V d M X k n L σ α pc lv (vI y :: vI x :: st) := by
  obtain ⟨hd, rfl⟩ := hd
  intro E ad0 ad p e s m below meth c H locs ls C h1 h2 hP hD hS hl
  refine lv_iadd (x := i32 x) (y := i32 y) C.1 C.2.1 hd ?_
  rw [i32_add]
  exact kk E ad0 ad p e s m below meth c H locs ls C h1 h2 hP hD hS hl
theorem v_isub {x y : Int} (hd : At M.2.1 pc .isub 1 nx) (kk : V d M X k n L σ α nx lv (vI (x - y) :: st)) : V d M X k n L σ α pc lv (vI y :: vI x :: st) := by
  obtain ⟨hd, rfl⟩ := hd
  intro E ad0 ad p e s m below meth c H locs ls C h1 h2 hP hD hS hl
  refine lv_isub (x := i32 x) (y := i32 y) C.1 C.2.1 hd ?_
  rw [i32_sub]
  exact kk E ad0 ad p e s m below meth c H locs ls C h1 h2 hP hD hS hl
theorem v_imul {x y : Int} (hd : At M.2.1 pc .imul 1 nx) (kk : V d M X k n L σ α nx lv (vI (x * y) :: st)) : V d M X k n L σ α pc lv (vI y :: vI x :: st) := by
  obtain ⟨hd, rfl⟩ := hd
  intro E ad0 ad p e s m below meth c H locs ls C h1 h2 hP hD hS hl
  refine lv_imul (x := i32 x) (y := i32 y) C.1 C.2.1 hd ?_
  rw [i32_mul]
  exact kk E ad0 ad p e s m below meth c H locs ls C h1 h2 hP hD hS hl
theorem v_dup {v : AV} (hd : At M.2.1 pc .dup 1 nx) (hv : ∀ z, v ≠ vL z) (kk : V d M X k n L σ α nx lv (v :: v :: st)) : V d M X k n L σ α pc lv (v :: st) := by
  obtain ⟨hd, rfl⟩ := hd
  intro E ad0 ad p e s m below meth c H locs ls C h1 h2 hP hD hS hl
  exact lv_dup C.1 C.2.1 hd (cv_cat E ad v hv) (kk E ad0 ad p e s m below meth c H locs ls C h1 h2 hP hD hS hl)
theorem v_dup2 {v w : AV} (hd : At M.2.1 pc .dup2 1 nx) (hv : (∀ z, v ≠ vL z) ∧ ∀ z, w ≠ vL z) (kk : V d M X k n L σ α nx lv (v :: w :: v :: w :: st)) : V d M X k n L σ α pc lv (v :: w :: st) := by
  obtain ⟨hd, rfl⟩ := hd
  intro E ad0 ad p e s m below meth c H locs ls C h1 h2 hP hD hS hl
  exact lv_dup2_11 C.1 C.2.1 hd (cv_cat E ad v hv.1) (cv_cat E ad w hv.2) (kk E ad0 ad p e s m below meth c H locs ls C h1 h2 hP hD hS hl)
theorem v_pop {v : AV} (hd : At M.2.1 pc .pop 1 nx) (hv : ∀ z, v ≠ vL z) (kk : V d M X k n L σ α nx lv st) : V d M X k n L σ α pc lv (v :: st) := by
  obtain ⟨hd, rfl⟩ := hd
  intro E ad0 ad p e s m below meth c H locs ls C h1 h2 hP hD hS hl
  exact lv_pop C.1 C.2.1 hd (cv_cat E ad v hv) (kk E ad0 ad p e s m below meth c H locs ls C h1 h2 hP hD hS hl)
theorem v_goto {off : Int} {tgt : Nat} (hd : At M.2.1 pc (.goto off) 3 nx) (ht : (pc : Int) + off = (tgt : Int)) (kk : V d M X k n L σ α tgt lv st) : V d M X k n L σ α pc lv st := by
  obtain ⟨hd, rfl⟩ := hd
  intro E ad0 ad p e s m below meth c H locs ls C h1 h2 hP hD hS hl
  exact lv_goto C.1 C.2.1 hd ht (kk E ad0 ad p e s m below meth c H locs ls C h1 h2 hP hD hS hl)
theorem v_icmp_eq {x y off : Int} {tgt : Nat} (hd : At M.2.1 pc (.if_icmp .eq off) 3 nx) (ht : (pc : Int) + off = (tgt : Int)) (h : InR x ∧ InR y) (kt : x = y → V d M X k n L σ α tgt lv st) (kf : ¬ x = y → V d M X k n L σ α nx lv st) : V d M X k n L σ α pc lv (vI y :: vI x :: st) := by
  obtain ⟨hd, rfl⟩ := hd
  intro E ad0 ad p e s m below meth c H locs ls C h1 h2 hP hD hS hl
  exact lv_icmp_eq (x := i32 x) (y := i32 y) C.1 C.2.1 hd ht (fun q => kt ((i32_eq h).mp q) E ad0 ad p e s m below meth c H locs ls C h1 h2 hP hD hS hl) (fun q => kf (fun r => q ((i32_eq h).mpr r)) E ad0 ad p e s m below meth c H locs ls C h1 h2 hP hD hS hl)
theorem v_if_eq {x off : Int} {tgt : Nat} (hd : At M.2.1 pc (.ifCond .eq off) 3 nx) (ht : (pc : Int) + off = (tgt : Int)) (hx : InR x) (kt : x = 0 → V d M X k n L σ α tgt lv st) (kf : ¬ x = 0 → V d M X k n L σ α nx lv st) : V d M X k n L σ α pc lv (vI x :: st) := by
  obtain ⟨hd, rfl⟩ := hd
  have h : InR x ∧ InR 0 := ⟨hx, by omega, by omega⟩
  intro E ad0 ad p e s m below meth c H locs ls C h1 h2 hP hD hS hl
  exact lv_if_eq (x := i32 x) C.1 C.2.1 hd ht (fun q => kt ((i32_eq h).mp q) E ad0 ad p e s m below meth c H locs ls C h1 h2 hP hD hS hl) (fun q => kf (fun r => q ((i32_eq h).mpr r)) E ad0 ad p e s m below meth c H locs ls C h1 h2 hP hD hS hl)
theorem v_icmp_ne {x y off : Int} {tgt : Nat} (hd : At M.2.1 pc (.if_icmp .ne off) 3 nx) (ht : (pc : Int) + off = (tgt : Int)) (h : InR x ∧ InR y) (kt : ¬ x = y → V d M X k n L σ α tgt lv st) (kf : x = y → V d M X k n L σ α nx lv st) : V d M X k n L σ α pc lv (vI y :: vI x :: st) := by
  obtain ⟨hd, rfl⟩ := hd
  intro E ad0 ad p e s m below meth c H locs ls C h1 h2 hP hD hS hl
  exact lv_icmp_ne (x := i32 x) (y := i32 y) C.1 C.2.1 hd ht (fun q => kt ((not_congr (i32_eq h)).mp q) E ad0 ad p e s m below meth c H locs ls C h1 h2 hP hD hS hl) (fun q => kf ((i32_eq h).mp q) E ad0 ad p e s m below meth c H locs ls C h1 h2 hP hD hS hl)
theorem v_if_ne {x off : Int} {tgt : Nat} (hd : At M.2.1 pc (.ifCond .ne off) 3 nx) (ht : (pc : Int) + off = (tgt : Int)) (hx : InR x) (kt : ¬ x = 0 → V d M X k n L σ α tgt lv st) (kf : x = 0 → V d M X k n L σ α nx lv st) : V d M X k n L σ α pc lv (vI x :: st) := by
  obtain ⟨hd, rfl⟩ := hd
  have h : InR x ∧ InR 0 := ⟨hx, by omega, by omega⟩
  intro E ad0 ad p e s m below meth c H locs ls C h1 h2 hP hD hS hl
  exact lv_if_ne (x := i32 x) C.1 C.2.1 hd ht (fun q => kt ((not_congr (i32_eq h)).mp q) E ad0 ad p e s m below meth c H locs ls C h1 h2 hP hD hS hl) (fun q => kf ((i32_eq h).mp q) E ad0 ad p e s m below meth c H locs ls C h1 h2 hP hD hS hl)
theorem v_icmp_lt {x y off : Int} {tgt : Nat} (hd : At M.2.1 pc (.if_icmp .lt off) 3 nx) (ht : (pc : Int) + off = (tgt : Int)) (h : InR x ∧ InR y) (kt : x < y → V d M X k n L σ α tgt lv st) (kf : ¬ x < y → V d M X k n L σ α nx lv st) : V d M X k n L σ α pc lv (vI y :: vI x :: st) := by
  obtain ⟨hd, rfl⟩ := hd
  intro E ad0 ad p e s m below meth c H locs ls C h1 h2 hP hD hS hl
  exact lv_icmp_lt (x := i32 x) (y := i32 y) C.1 C.2.1 hd ht (fun q => kt ((i32_lt h).mp q) E ad0 ad p e s m below meth c H locs ls C h1 h2 hP hD hS hl) (fun q => kf (fun r => q ((i32_lt h).mpr r)) E ad0 ad p e s m below meth c H locs ls C h1 h2 hP hD hS hl)
theorem v_if_lt {x off : Int} {tgt : Nat} (hd : At M.2.1 pc (.ifCond .lt off) 3 nx) (ht : (pc : Int) + off = (tgt : Int)) (hx : InR x) (kt : x < 0 → V d M X k n L σ α tgt lv st) (kf : ¬ x < 0 → V d M X k n L σ α nx lv st) : V d M X k n L σ α pc lv (vI x :: st) := by
  obtain ⟨hd, rfl⟩ := hd
  have h : InR x ∧ InR 0 := ⟨hx, by omega, by omega⟩
  intro E ad0 ad p e s m below meth c H locs ls C h1 h2 hP hD hS hl
  exact lv_if_lt (x := i32 x) C.1 C.2.1 hd ht (fun q => kt ((i32_lt h).mp q) E ad0 ad p e s m below meth c H locs ls C h1 h2 hP hD hS hl) (fun q => kf (fun r => q ((i32_lt h).mpr r)) E ad0 ad p e s m below meth c H locs ls C h1 h2 hP hD hS hl)
theorem v_icmp_ge {x y off : Int} {tgt : Nat} (hd : At M.2.1 pc (.if_icmp .ge off) 3 nx) (ht : (pc : Int) + off = (tgt : Int)) (h : InR x ∧ InR y) (kt : y ≤ x → V d M X k n L σ α tgt lv st) (kf : ¬ y ≤ x → V d M X k n L σ α nx lv st) : V d M X k n L σ α pc lv (vI y :: vI x :: st) := by
  obtain ⟨hd, rfl⟩ := hd
  intro E ad0 ad p e s m below meth c H locs ls C h1 h2 hP hD hS hl
  exact lv_icmp_ge (x := i32 x) (y := i32 y) C.1 C.2.1 hd ht (fun q => kt ((i32_le ⟨h.2, h.1⟩).mp q) E ad0 ad p e s m below meth c H locs ls C h1 h2 hP hD hS hl) (fun q => kf (fun r => q ((i32_le ⟨h.2, h.1⟩).mpr r)) E ad0 ad p e s m below meth c H locs ls C h1 h2 hP hD hS hl)
theorem v_if_ge {x off : Int} {tgt : Nat} (hd : At M.2.1 pc (.ifCond .ge off) 3 nx) (ht : (pc : Int) + off = (tgt : Int)) (hx : InR x) (kt : 0 ≤ x → V d M X k n L σ α tgt lv st) (kf : ¬ 0 ≤ x → V d M X k n L σ α nx lv st) : V d M X k n L σ α pc lv (vI x :: st) := by
  obtain ⟨hd, rfl⟩ := hd
  have h : InR x ∧ InR 0 := ⟨hx, by omega, by omega⟩
  intro E ad0 ad p e s m below meth c H locs ls C h1 h2 hP hD hS hl
  exact lv_if_ge (x := i32 x) C.1 C.2.1 hd ht (fun q => kt ((i32_le ⟨h.2, h.1⟩).mp q) E ad0 ad p e s m below meth c H locs ls C h1 h2 hP hD hS hl) (fun q => kf (fun r => q ((i32_le ⟨h.2, h.1⟩).mpr r)) E ad0 ad p e s m below meth c H locs ls C h1 h2 hP hD hS hl)
theorem v_icmp_gt {x y off : Int} {tgt : Nat} (hd : At M.2.1 pc (.if_icmp .gt off) 3 nx) (ht : (pc : Int) + off = (tgt : Int)) (h : InR x ∧ InR y) (kt : y < x → V d M X k n L σ α tgt lv st) (kf : ¬ y < x → V d M X k n L σ α nx lv st) : V d M X k n L σ α pc lv (vI y :: vI x :: st) := by
  obtain ⟨hd, rfl⟩ := hd
  intro E ad0 ad p e s m below meth c H locs ls C h1 h2 hP hD hS hl
  exact lv_icmp_gt (x := i32 x) (y := i32 y) C.1 C.2.1 hd ht (fun q => kt ((i32_lt ⟨h.2, h.1⟩).mp q) E ad0 ad p e s m below meth c H locs ls C h1 h2 hP hD hS hl) (fun q => kf (fun r => q ((i32_lt ⟨h.2, h.1⟩).mpr r)) E ad0 ad p e s m below meth c H locs ls C h1 h2 hP hD hS hl)
theorem v_if_gt {x off : Int} {tgt : Nat} (hd : At M.2.1 pc (.ifCond .gt off) 3 nx) (ht : (pc : Int) + off = (tgt : Int)) (hx : InR x) (kt : 0 < x → V d M X k n L σ α tgt lv st) (kf : ¬ 0 < x → V d M X k n L σ α nx lv st) : V d M X k n L σ α pc lv (vI x :: st) := by
  obtain ⟨hd, rfl⟩ := hd
  have h : InR x ∧ InR 0 := ⟨hx, by omega, by omega⟩
  intro E ad0 ad p e s m below meth c H locs ls C h1 h2 hP hD hS hl
  exact lv_if_gt (x := i32 x) C.1 C.2.1 hd ht (fun q => kt ((i32_lt ⟨h.2, h.1⟩).mp q) E ad0 ad p e s m below meth c H locs ls C h1 h2 hP hD hS hl) (fun q => kf (fun r => q ((i32_lt ⟨h.2, h.1⟩).mpr r)) E ad0 ad p e s m below meth c H locs ls C h1 h2 hP hD hS hl)
theorem v_icmp_le {x y off : Int} {tgt : Nat} (hd : At M.2.1 pc (.if_icmp .le off) 3 nx) (ht : (pc : Int) + off = (tgt : Int)) (h : InR x ∧ InR y) (kt : x ≤ y → V d M X k n L σ α tgt lv st) (kf : ¬ x ≤ y → V d M X k n L σ α nx lv st) : V d M X k n L σ α pc lv (vI y :: vI x :: st) := by
  obtain ⟨hd, rfl⟩ := hd
  intro E ad0 ad p e s m below meth c H locs ls C h1 h2 hP hD hS hl
  exact lv_icmp_le (x := i32 x) (y := i32 y) C.1 C.2.1 hd ht (fun q => kt ((i32_le h).mp q) E ad0 ad p e s m below meth c H locs ls C h1 h2 hP hD hS hl) (fun q => kf (fun r => q ((i32_le h).mpr r)) E ad0 ad p e s m below meth c H locs ls C h1 h2 hP hD hS hl)
theorem v_if_le {x off : Int} {tgt : Nat} (hd : At M.2.1 pc (.ifCond .le off) 3 nx) (ht : (pc : Int) + off = (tgt : Int)) (hx : InR x) (kt : x ≤ 0 → V d M X k n L σ α tgt lv st) (kf : ¬ x ≤ 0 → V d M X k n L σ α nx lv st) : V d M X k n L σ α pc lv (vI x :: st) := by
  obtain ⟨hd, rfl⟩ := hd
  have h : InR x ∧ InR 0 := ⟨hx, by omega, by omega⟩
  intro E ad0 ad p e s m below meth c H locs ls C h1 h2 hP hD hS hl
  exact lv_if_le (x := i32 x) C.1 C.2.1 hd ht (fun q => kt ((i32_le h).mp q) E ad0 ad p e s m below meth c H locs ls C h1 h2 hP hD hS hl) (fun q => kf (fun r => q ((i32_le h).mpr r)) E ad0 ad p e s m below meth c H locs ls C h1 h2 hP hD hS hl)
end ROWS
