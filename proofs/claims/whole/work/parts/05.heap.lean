section HEAP
variable {d : Nat} {M : Mi} {X : Cx} {k n : Nat} {L : List Ly} {σ α : St} {pc nx : Nat} {lv : List (Option AV)} {st : List AV}
theorem Ctx.gw {E : Ev} {ad0 : Nat → Nat} {p : Program} {s : State} {m : MethodId} {meth : Method} {c : Code} (C : Ctx M X E ad0 p s m meth c) {w : Cond} (h : w ∈ GW) : w.before (X.2.2.1.map (cv E ad0)).toArray s = true := C.2.2.2.2.2.2.2.1 w (List.mem_cons_of_mem _ h)
theorem Ctx.gwa {E : Ev} {ad0 : Nat → Nat} {p : Program} {s : State} {m : MethodId} {meth : Method} {c : Code} (C : Ctx M X E ad0 p s m meth c) : ∀ w ∈ GW, w.before (X.2.2.1.map (cv E ad0)).toArray s = true := fun _ h => C.gw h
theorem Ctx.own {E : Ev} {ad0 : Nat → Nat} {p : Program} {s : State} {m : MethodId} {meth : Method} {c : Code} (C : Ctx M X E ad0 p s m meth c) : s.vm.findClass M.1.cls = some m.cls := C.2.2.2.2.2.1
theorem Ctx.K {E : Ev} {ad0 : Nat → Nat} {p : Program} {s : State} {m : MethodId} {meth : Method} {c : Code} (C : Ctx M X E ad0 p s m meth c) : va_K E.2.1 vwCl (ty4 E.2.2.1) s := C.2.2.2.2.2.2.2.2.1
theorem Ctx.ns {E : Ev} {ad0 : Nat → Nat} {p : Program} {s : State} {m : MethodId} {meth : Method} {c : Code} (C : Ctx M X E ad0 p s m meth c) : NS s := C.2.2.2.2.2.2.2.2.2.1
theorem Ctx.sx {E : Ev} {ad0 : Nat → Nat} {p : Program} {s : State} {m : MethodId} {meth : Method} {c : Code} (C : Ctx M X E ad0 p s m meth c) : SX E (AA ad0 X.2.2.2.1 s.heap.size) s s.heap := C.2.2.2.2.2.2.2.2.2.2
theorem Ctx.ml {E : Ev} {ad0 : Nat → Nat} {p : Program} {s : State} {m : MethodId} {meth : Method} {c : Code} (C : Ctx M X E ad0 p s m meth c) : c.maxLocals = M.2.2.1 := C.2.2.2.2.1
/-- a field's link: the entry idx of class own names the field k of the class ci -/
def FL (own : String) (idx ci k : Nat) : Prop := ∃ C T N, vwCl[ci]? = some (C, T, N) ∧ k < N ∧ (∀ w ∈ u_ws C T N, w ∈ GW) ∧ (Cond.fieldLink own idx (T k).1 (T k).2.1 (T k).2.2.1 ∈ GW ∨ ∃ host, Cond.fieldLinkNest own idx (T k).1 (T k).2.1 (T k).2.2.1 host ∈ NW)
theorem ce_obj (K : Nat → ClassId) (ad : Nat → Nat) (σ α : St) (q ci : Nat) (cs : List Nat) : ce K ad σ α q (yO ci cs) = .inr (ci, (List.range cs.length).map (fun k => fv ad σ q k (cs.getD k 1))) := rfl
theorem fs_at {ad : Nat → Nat} {q f c : Nat} {cs : List Nat} (hc : cs[f]? = some c) : ((List.range cs.length).map (fun k => fv ad σ q k (cs.getD k 1)))[f]? = some (fv ad σ q f c) := by
  have hf : f < cs.length := (List.getElem?_eq_some_iff.mp hc).1
  simp [List.getElem?_map, List.getElem?_range hf, List.getD_eq_getElem?_getD, hc]
theorem v_get {q ci f idx c : Nat} {cs : List Nat} (v : AV) (hv : ∀ E ad, fv ad σ q f c = cv E ad v) (hd : At M.2.1 pc (.getfield idx) 3 nx) (hf : FL M.1.cls idx ci f) (hL : L[q]? = some (yO ci cs)) (hc : cs[f]? = some c) (kk : V d M X k n L σ α nx lv (v :: st)) : V d M X k n L σ α pc lv (vR q :: st) := by
  obtain ⟨hd, rfl⟩ := hd
  obtain ⟨C0, T, N, hcl, hk, hin, hlk⟩ := hf
  intro E ad0 ad p e s m below meth c' H locs ls C h1 h2 hP hD hS hl
  have kk' := kk E ad0 ad p e s m below meth c' H locs ls C h1 h2 hP hD hS hl
  have he := mW_get E.2.2.1 ad σ α hL
  rw [ce_obj] at he
  rcases hlk with hlk | ⟨host, hlk⟩
  · exact va_get C.1 C.2.1 C.gwa hin C.own C.K hP q he hcl f hk (C.gw hlk) (fun _ h => h) (v := cv E ad v) (by rw [← hv E ad]; exact fs_at hc) hd kk'
  · exact va_getN C.1 C.2.1 C.gwa hin C.own C.K hP q he hcl f hk (va_Nw.use rfl (C.ns _ hlk)) (fun _ h => h) (v := cv E ad v) (by rw [← hv E ad]; exact fs_at hc) hd kk'
theorem v_getI {q ci f idx : Nat} {cs : List Nat} {z : Int} (hd : At M.2.1 pc (.getfield idx) 3 nx) (hf : FL M.1.cls idx ci f) (hL : L[q]? = some (yO ci cs)) (hc : cs[f]? = some 0) (hz : σ q f = z) (kk : V d M X k n L σ α nx lv (vI z :: st)) : V d M X k n L σ α pc lv (vR q :: st) :=
  v_get (vI z) (fun E ad => by rw [← hz]; rfl) hd hf hL hc kk
theorem v_getR {q ci f idx r : Nat} {cs : List Nat} (hd : At M.2.1 pc (.getfield idx) 3 nx) (hf : FL M.1.cls idx ci f) (hL : L[q]? = some (yO ci cs)) (hc : cs[f]? = some (r + 2)) (kk : V d M X k n L σ α nx lv (vR r :: st)) : V d M X k n L σ α pc lv (vR q :: st) :=
  v_get (vR r) (fun E ad => rfl) hd hf hL hc kk
/-- a field that may be written: an int, or a boolean -/
def PL (own : String) (idx ci k : Nat) (b : Bool) : Prop := ∃ C T N, vwCl[ci]? = some (C, T, N) ∧ k < N ∧ (∀ w ∈ u_ws C T N, w ∈ GW) ∧ (Cond.fieldLink own idx (T k).1 (T k).2.1 (T k).2.2.1 ∈ GW ∨ ∃ host, Cond.fieldLinkNest own idx (T k).1 (T k).2.1 (T k).2.2.1 host ∈ NW) ∧ (T k).2.2.2 = false ∧ (∃ ty0 : Nat → FieldType, ∀ k, k < N → parseFieldDescriptor (T k).2.2.1 = some (ty0 k)) ∧ (∀ a, a < N → ∀ b, b < N → a ≠ b → (T a).2.1 ≠ (T b).2.1) ∧ parseFieldDescriptor (T k).2.2.1 = some (if b then .boolean else .int)
theorem bool_nf {z : Int} (h : z = 0 ∨ z = 1) : narrow .boolean (.int (i32 z)) = .int (i32 z) ∧ fits .boolean (.int (i32 z)) = true := by
  rcases h with rfl | rfl <;> decide +kernel
theorem fs_set {ad : Nat → Nat} {q f : Nat} {cs : List Nat} {z : Int} (hc : cs[f]? = some 0) : ((List.range cs.length).map (fun k => fv ad σ q k (cs.getD k 1))).set f (.int (i32 z)) = (List.range cs.length).map (fun k => fv ad (uS σ q f z) q k (cs.getD k 1)) := by
  have hf : f < cs.length := (List.getElem?_eq_some_iff.mp hc).1
  apply List.ext_getElem?
  intro j
  rw [List.getElem?_set]
  by_cases hj : f = j
  · subst hj
    rw [if_pos rfl, if_pos (by simpa using hf), fs_at hc]
    simp [fv, uS]
  · rw [if_neg hj]
    by_cases hl : j < cs.length
    · simp only [List.getElem?_map, List.getElem?_range hl, Option.map_some]
      congr 1
      match cs.getD j 1 with
      | 0 => simp [fv, uS, Ne.symm hj]
      | 1 => rfl
      | r + 2 => rfl
    · rw [List.getElem?_eq_none (by simpa using hl), List.getElem?_eq_none (by simpa using hl)]
theorem v_put {q ci f idx : Nat} {cs : List Nat} {z : Int} {b : Bool} (hd : At M.2.1 pc (.putfield idx) 3 nx) (hf : PL M.1.cls idx ci f b) (hL : L[q]? = some (yO ci cs)) (hc : cs[f]? = some 0) (hb : b = true → z = 0 ∨ z = 1) (kk : V d M X k n L (uS σ q f z) α nx lv st) : V d M X k n L σ α pc lv (vI z :: vR q :: st) := by
  obtain ⟨hd, rfl⟩ := hd
  obtain ⟨C0, T, N, hcl, hk, hin, hlk, hfin, ⟨ty0, hty⟩, hnm, hpd⟩ := hf
  intro E ad0 ad p e s m below meth c' H locs ls C h1 h2 hP hD hS hl
  have he := mW_get E.2.2.1 ad σ α hL
  rw [ce_obj] at he
  have hnf : narrow (if b then .boolean else .int) (.int (i32 z)) = .int (i32 z) ∧ fits (if b then .boolean else .int) (.int (i32 z)) = true := by
    cases b with
    | true => exact bool_nf (hb rfl)
    | false => exact ⟨rfl, rfl⟩
  have hlen : f < ((List.range cs.length).map (fun k => fv ad σ q k (cs.getD k 1))).length := by simpa using (List.getElem?_eq_some_iff.mp hc).1
  have hset : (mW L E.2.2.1 ad σ α).set q (ad q, .inr (ci, ((List.range cs.length).map (fun k => fv ad σ q k (cs.getD k 1))).set f (.int (i32 z)))) = mW L E.2.2.1 ad (uS σ q f z) α := mW_set hL (by rw [fs_set hc]; rfl) ce_uS
  rcases hlk with hlk | ⟨host, hlk⟩
  · refine va_put (v := .int (i32 z)) C.1 C.2.1 C.gwa hin ty0 hty hnm C.own C.K hP hD hS q he hcl f hk (C.gw hlk) (fun _ h => h) hfin hpd hnf.1 hnf.2 hlen hd (fun H1 locs1 hP1 hD1 hS1 => ?_)
    rw [hset] at hP1 hD1
    exact kk E ad0 ad p e s m below meth c' H1 locs1 ls C h1 h2 hP1 hD1 hS1 hl
  · refine va_putN (v := .int (i32 z)) C.1 C.2.1 C.gwa hin ty0 hty hnm C.own C.K hP hD hS q he hcl f hk (va_Nw.use rfl (C.ns _ hlk)) (fun _ h => h) hfin hpd hnf.1 hnf.2 hlen hd (fun H1 locs1 hP1 hD1 hS1 => ?_)
    rw [hset] at hP1 hD1
    exact kk E ad0 ad p e s m below meth c' H1 locs1 ls C h1 h2 hP1 hD1 hS1 hl
theorem v_iaload {q N : Nat} {z w : Int} (hd : At M.2.1 pc .iaload 1 nx) (hL : L[q]? = some (yA 0 N)) (hz : 0 ≤ z ∧ z < N ∧ N ≤ 2147483647) (hw : α q z.toNat = w) (kk : V d M X k n L σ α nx lv (vI w :: st)) : V d M X k n L σ α pc lv (vI z :: vR q :: st) := by
  obtain ⟨hd, rfl⟩ := hd
  subst hw
  intro E ad0 ad p e s m below meth c' H locs ls C h1 h2 hP hD hS hl
  have kk' := kk E ad0 ad p e s m below meth c' H locs ls C h1 h2 hP hD hS hl
  refine va_iald C.1 C.2.1 C.K hP q 0 (mW_get E.2.2.1 ad σ α hL) rfl (i32_in hz.1 hz.2.1 hz.2.2) hd ?_
  rw [i32_cl hz.1 (by omega)]
  exact kk'
theorem v_baload {q N : Nat} {z w : Int} (hd : At M.2.1 pc .baload 1 nx) (hL : L[q]? = some (yA 1 N)) (hz : 0 ≤ z ∧ z < N ∧ N ≤ 2147483647) (hw : α q z.toNat = w) (kk : V d M X k n L σ α nx lv (vI w :: st)) : V d M X k n L σ α pc lv (vI z :: vR q :: st) := by
  obtain ⟨hd, rfl⟩ := hd
  subst hw
  intro E ad0 ad p e s m below meth c' H locs ls C h1 h2 hP hD hS hl
  have kk' := kk E ad0 ad p e s m below meth c' H locs ls C h1 h2 hP hD hS hl
  refine va_zald C.1 C.2.1 C.K hP q 1 (mW_get E.2.2.1 ad σ α hL) rfl (i32_in hz.1 hz.2.1 hz.2.2) hd ?_
  rw [i32_cl hz.1 (by omega)]
  exact kk'
theorem upd_i32 (f : Nat → Int) (k : Nat) (x : Int) : upd (fun j => i32 (f j)) k (i32 x) = fun j => i32 (uF f k x j) := by
  funext j
  by_cases h : j = k <;> simp [upd, uF, h]
theorem v_iastore {q N : Nat} {z x : Int} (hd : At M.2.1 pc .iastore 1 nx) (hL : L[q]? = some (yA 0 N)) (hz : 0 ≤ z ∧ z < N ∧ N ≤ 2147483647) (kk : V d M X k n L σ (uA α q (uF (α q) z.toNat x)) nx lv st) : V d M X k n L σ α pc lv (vI x :: vI z :: vR q :: st) := by
  obtain ⟨hd, rfl⟩ := hd
  intro E ad0 ad p e s m below meth c' H locs ls C h1 h2 hP hD hS hl
  refine va_iast (x := i32 x) C.1 C.2.1 C.K hP hD hS q 0 (mW_get E.2.2.1 ad σ α hL) rfl (i32_in hz.1 hz.2.1 hz.2.2) hd (fun H1 locs1 hP1 hD1 hS1 => ?_)
  have hset : (mW L E.2.2.1 ad σ α).set q (ad q, .inl (E.2.2.1 0, N, .inl (upd (fun j => i32 (α q j)) (i32 z).toNatClampNeg (i32 x)))) = mW L E.2.2.1 ad σ (uA α q (uF (α q) z.toNat x)) := by
    refine mW_set hL ?_ ce_uA
    rw [i32_cl hz.1 (by omega), upd_i32]
    simp [ce, uA]
  rw [hset] at hP1 hD1
  exact kk E ad0 ad p e s m below meth c' H1 locs1 ls C h1 h2 hP1 hD1 hS1 hl
theorem bool_nar {z : Int} (h : z = 0 ∨ z = 1) : vp_nar .boolean (i32 z) = i32 z := by
  rcases h with rfl | rfl <;> decide +kernel
theorem v_bastore {q N : Nat} {z x : Int} (hd : At M.2.1 pc .bastore 1 nx) (hL : L[q]? = some (yA 1 N)) (hz : 0 ≤ z ∧ z < N ∧ N ≤ 2147483647) (hx : x = 0 ∨ x = 1) (kk : V d M X k n L σ (uA α q (uF (α q) z.toNat x)) nx lv st) : V d M X k n L σ α pc lv (vI x :: vI z :: vR q :: st) := by
  obtain ⟨hd, rfl⟩ := hd
  intro E ad0 ad p e s m below meth c' H locs ls C h1 h2 hP hD hS hl
  refine va_zast (x := i32 x) C.1 C.2.1 C.K hP hD hS q 1 (mW_get E.2.2.1 ad σ α hL) rfl (i32_in hz.1 hz.2.1 hz.2.2) hd (fun H1 locs1 hP1 hD1 hS1 => ?_)
  have hset : (mW L E.2.2.1 ad σ α).set q (ad q, .inl (E.2.2.1 1, N, .inl (upd (fun j => i32 (α q j)) (i32 z).toNatClampNeg (vp_nar .boolean (i32 x))))) = mW L E.2.2.1 ad σ (uA α q (uF (α q) z.toNat x)) := by
    refine mW_set hL ?_ ce_uA
    rw [i32_cl hz.1 (by omega), bool_nar hx, upd_i32]
    simp [ce, uA]
  rw [hset] at hP1 hD1
  exact kk E ad0 ad p e s m below meth c' H1 locs1 ls C h1 h2 hP1 hD1 hS1 hl
theorem v_aaload {q t : Nat} {z : Int} {cs : List Nat} {r : Nat} (hd : At M.2.1 pc .aaload 1 nx) (hL : L[q]? = some (yQ t cs)) (ht : t = 2 ∨ t = 3) (hz : 0 ≤ z ∧ z < cs.length ∧ cs.length ≤ 2147483647) (hr : cs[z.toNat]? = some (r + 2)) (kk : V d M X k n L σ α nx lv (vR r :: st)) : V d M X k n L σ α pc lv (vI z :: vR q :: st) := by
  obtain ⟨hd, rfl⟩ := hd
  intro E ad0 ad p e s m below meth c' H locs ls C h1 h2 hP hD hS hl
  have kk' := kk E ad0 ad p e s m below meth c' H locs ls C h1 h2 hP hD hS hl
  have hq : va_rf (qv ad (cs.getD (i32 z).toNatClampNeg 1)) = .ref (ad r) := by
    rw [i32_cl hz.1 (by omega), List.getD_eq_getElem?_getD, hr]
    rfl
  rcases ht with rfl | rfl
  · refine va_aldq (C := RX0) C.1 C.2.1 C.K hP q 2 (mW_get E.2.2.1 ad σ α hL) rfl (i32_in hz.1 hz.2.1 hz.2.2) hd ?_
    rw [hq]
    exact kk'
  · refine va_aldq (C := RX1) C.1 C.2.1 C.K hP q 3 (mW_get E.2.2.1 ad σ α hL) rfl (i32_in hz.1 hz.2.1 hz.2.2) hd ?_
    rw [hq]
    exact kk'
theorem Ctx.post {E : Ev} {ad0 ad : Nat → Nat} {p : Program} {s : State} {m : MethodId} {meth : Method} {c : Code} {H : Heap} {locs : List Loc} {r : Option AV} (C : Ctx M X E ad0 p s m meth c) (h1 : X.2.2.2.1 ≤ L.length) (h2 : ∀ j, j < X.2.2.2.1 ∨ L.length ≤ j → ad j = ad0 j) (hP : va_P E.2.1 vwCl (mW L E.2.2.1 ad σ α) H) (hD : va_D (AA ad0 X.2.2.2.1 s.heap.size) (mW L E.2.2.1 ad σ α)) (hS : va_S (AA ad0 X.2.2.2.1 s.heap.size) s.heap H locs) (hp : X.2.2.2.2 r L σ α) {t : State} (ht : t.heap = H) {a : Array Value} {v : Option Value} (hv : v = r.map (cv E ad)) : PostW E ad0 X.2.2.2.1 s.heap.size X.2.2.2.2 a s (.returned v) t := by
  subst hv
  exact ⟨⟨r, L, ad, σ, α, rfl, hp, h1, h2, by rw [ht]; exact hP, hD⟩, hS.F ht⟩
theorem v_iretT {z : Int} {ty : FieldType} (hd : At M.2.1 pc .ireturn 1 nx) (hr : M.2.2.2 = some ty) (hn : narrow ty (.int (i32 z)) = .int (i32 z)) (hk : k ≤ X.1 ∧ n ≤ X.2.1) (hp : X.2.2.2.2 (some (vI z)) L σ α) : V d M X k n L σ α pc lv [vI z] := by
  obtain ⟨hd, rfl⟩ := hd
  intro E ad0 ad p e s m below meth c' H locs ls C h1 h2 hP hD hS hl
  have hlk := C.2.2.2.1
  refine W.widen hk.1 hk.2 ?_
  exact W.zret (v := i32 z) C.1 C.2.1 (C.2.2.1.trans hr) hn (fun t ht hW => C.post h1 h2 hP hD hS hp ht rfl) hS.2.2 hd hlk
theorem v_ireti {z : Int} (hd : At M.2.1 pc .ireturn 1 nx) (hr : M.2.2.2 = some .int) (hk : k ≤ X.1 ∧ n ≤ X.2.1) (hp : X.2.2.2.2 (some (vI z)) L σ α) : V d M X k n L σ α pc lv [vI z] := v_iretT hd hr rfl hk hp
theorem v_iretb {z : Int} (hd : At M.2.1 pc .ireturn 1 nx) (hr : M.2.2.2 = some .boolean) (hk : k ≤ X.1 ∧ n ≤ X.2.1) (hz : z = 0 ∨ z = 1) (hp : X.2.2.2.2 (some (vI z)) L σ α) : V d M X k n L σ α pc lv [vI z] := v_iretT hd hr (bool_nf hz).1 hk hp
theorem v_vret (hd : At M.2.1 pc .return_ 1 nx) (hr : M.2.2.2 = none) (hk : k ≤ X.1 ∧ n ≤ X.2.1) (hp : X.2.2.2.2 none L σ α) : V d M X k n L σ α pc lv [] := by
  obtain ⟨hd, rfl⟩ := hd
  intro E ad0 ad p e s m below meth c' H locs ls C h1 h2 hP hD hS hl
  have hlk := C.2.2.2.1
  refine W.widen hk.1 hk.2 ?_
  exact W.vret C.1 C.2.1 (C.2.2.1.trans hr) (fun t ht hW => C.post h1 h2 hP hD hS hp ht rfl) hS.2.2 hd hlk
end HEAP
